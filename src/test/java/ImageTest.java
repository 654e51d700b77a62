/** Promises 35 to 37: how many there are of all, IMAGES. */
public final class ImageTest {
    public static void main(String[] args) {
        count();
        image();
        imageOfNothing();
        wrong();
        Check.finish();
    }

    private static void counts(EdgeWalk walk, int... want) {
        for (int what = 0; what < want.length; what++) {
            Check.due("count " + what, walk.count(what), want[what]);
        }
    }

    private static void count() {
        EdgeWalk walk = Check.walk("sheet 3;goer 4 0 5;goer 1 0 0;goer 2 1 8;stone 6;stone 7", "turn 0", "turn 1");
        walk.seed(42);
        walk.note(0, 0, 4);
        walk.note(1, 0, 1);
        counts(walk, 3, 3, 2, 0, 0, 7, 0, 13, 2, 2, 0, 42, 0, -1);
        walk.force(-1);
        walk.step();
        counts(walk, 3, 3, 2, -1, 1, 1, 0, 13, 2, 2, 1, 42, 0, -1);
        walk.step();
        walk.stone(0);
        walk.feed(0, 0, 0, 0, 0);
        counts(walk, 3, 3, 2, -1, 2, 4, 2, 12, 3, 2, 3, 42, 20, -1);
        Check.due("count -1", walk.count(-1), -1);
        Check.due("count far", walk.count(Integer.MIN_VALUE), -1);
    }

    private static void image() {
        EdgeWalk walk = Check.walk("sheet 3;goer 4 0 5;stone 8;join 2 1 3", "turn 0");
        walk.seed(5);
        walk.note(1, 0, 1);
        walk.fold(0, 2);
        walk.step();
        Check.due("made", walk.image(2), 1);
        walk.feed(0, 0, 0, 0, 0);
        Check.rule(walk, "turn 1");
        walk.feed(0, 0, 0, 0, 0);
        walk.force(1);
        walk.seed(6);
        walk.step();
        Check.due("another", walk.image(0), 2);
        walk.end(0);
        Check.sheet(walk, "sheet 2;goer 0 0 0;goer 0 0 0");
        walk.note(0, 0, 0);
        walk.note(0, 0, 0);
        walk.step();
        walk.feed(0, 0, 0, 0, 0);
        Check.due("back", walk.back(2), 1);
        counts(walk, 3, 1, 2, 0, 1, 1, 0, 5, 1, 1, 0, 5, 20, -1);
        Check.due("cell", walk.goer(0, 0), 1);
        Check.due("fold", walk.join(0, 0), 2);
        Check.due("days", walk.join(2, 1), 3);
        Check.due("nothing to undo", walk.undo(), -1);
        Check.due("the told sheet and the notes", walk.ruled(0), 2);
        Check.due("the first edge as told", walk.folds(-1), 256);
        walk.step();
        Check.due("back again", walk.back(2), 1);
        Check.due("forward", walk.back(0), 2);
        Check.due("x of that one", walk.count(11), 6);
        Check.due("rule of that one", walk.count(3), 1);
        walk.step();
        Check.due("made anew", walk.image(0), 3);
        Check.due("gone back to", walk.back(0), 3);
    }

    private static void imageOfNothing() {
        EdgeWalk walk = new EdgeWalk();
        Check.due("image of nothing", walk.image(3), 0);
        Check.sheet(walk, "sheet 3;goer 0 0 0");
        walk.step();
        Check.due("back to nothing", walk.back(3), 0);
        Check.due("no side", walk.count(0), 0);
        Check.due("no goers", walk.count(1), 0);
        Check.due("no step", walk.step(), -1);
    }

    private static void wrong() {
        EdgeWalk walk = Check.walk("sheet 3;goer 0 0 0");
        Check.due("image 4", walk.image(4), -1);
        Check.due("image -1", walk.image(-1), -1);
        Check.due("back 4", walk.back(4), -1);
        Check.due("back -1", walk.back(-1), -1);
        walk.step();
        Check.due("never made", walk.back(1), -1);
        Check.due("nothing happens", walk.count(10), 1);
    }
}
