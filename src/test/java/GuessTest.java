/** Promises 29 to 32: NOTES, and which RULES and foldings fit them. */
public final class GuessTest {
    public static void main(String[] args) {
        note();
        ruled();
        look();
        folds();
        Check.finish();
    }

    private static void note() {
        EdgeWalk walk = Check.walk("sheet 2;goer 0 0 0");
        Check.due("n 61", walk.note(61, 0, 0), -2);
        Check.due("n -2", walk.note(-2, 0, 0), -2);
        Check.due("goer 1", walk.note(0, 1, 0), -2);
        Check.due("goer -1", walk.note(0, -1, 0), -2);
        Check.due("cell 4", walk.note(0, 0, 4), -2);
        Check.due("cell -2", walk.note(0, 0, -2), -2);
        Check.due("none yet", walk.count(9), 0);
        for (int k = 1; k <= 10; k++) {
            Check.due("note " + k, walk.note(k == 1 ? 0 : 60, 0, k == 2 ? -1 : 3), k);
        }
        Check.due("an eleventh", walk.note(0, 0, 0), -2);
        Check.due("ten", walk.count(9), 10);
        Check.due("no act", walk.count(10), 0);
        Check.due("none", walk.note(-1, 99, 99), 0);
        Check.due("none left", walk.count(9), 0);
        Check.due("the first anew", walk.note(5, 0, 0), 1);
    }

    private static EdgeWalk three() {
        return Check.walk("sheet 3;goer 4 0 5;goer 0 1 5", "turn 0", "turn 1", "turn 2 if goer = 1");
    }

    private static void ruled() {
        EdgeWalk walk = three();
        Check.due("all, without notes", walk.ruled(0), 4);
        Check.due("none is the first", walk.ruled(1), -1);
        Check.due("what 2", walk.ruled(2), -3);
        Check.due("what -1", walk.ruled(-1), -3);
        walk.step();
        walk.fold(0, 1);
        walk.stone(1);
        walk.give(0, 1);
        walk.note(1, 0, 1);
        Check.due("from the begin, as told", walk.ruled(0), 3);
        Check.due("first", walk.ruled(1), -1);
        walk.note(1, 1, -1);
        Check.due("not on", walk.ruled(0), 1);
        Check.due("first", walk.ruled(1), 2);
        walk.note(60, 0, 8);
        Check.due("no such", walk.ruled(0), 0);
        Check.due("no first", walk.ruled(1), -2);
        walk.note(-1, 0, 0);
        walk.note(0, 0, 4);
        Check.due("the begin of the first", walk.ruled(0), 4);
        walk.note(0, 0, 3);
        Check.due("not there", walk.ruled(0), 0);
        EdgeWalk bare = Check.walk("sheet 2;goer 0 0 0");
        Check.due("none alone", bare.ruled(0), 1);
        Check.due("none alone first", bare.ruled(1), -1);
    }

    private static void look() {
        EdgeWalk walk = three();
        Check.due("all alike at the begin", walk.look(0, 0), 0);
        Check.due("four alike", walk.look(0, 1), 4);
        walk.note(1, 0, 1);
        Check.due("the second tells more", walk.look(1, 0), 1);
        Check.due("two alike", walk.look(1, 1), 2);
        walk.note(1, 1, -1);
        Check.due("one left", walk.look(1, 0), 0);
        Check.due("one alike", walk.look(1, 1), 1);
        Check.due("n 60", walk.look(60, 1), 1);
        Check.due("n 61", walk.look(61, 0), -1);
        Check.due("n -1", walk.look(-1, 0), -1);
        Check.due("what 2", walk.look(0, 2), -1);
        Check.due("what -1", walk.look(0, -1), -1);
        walk.note(0, 0, 8);
        Check.due("no rule is so", walk.look(1, 0), -2);
        Check.due("no rule is so", walk.look(1, 1), -2);
        EdgeWalk six = Check.walk("sheet 3;goer 4 0 9;goer 4 1 9", "turn 0", "turn 0", "turn 0", "turn 0", "turn 0",
                "turn 1");
        Check.due("one is unlike", six.look(1, 1), 6);
        Check.due("all seven", six.look(0, 1), 7);
        EdgeWalk first = Check.walk("sheet 3;goer 4 0 9;goer 4 0 9", "turn 1 - goer", "turn 2 - goer * 2");
        Check.due("the first tells more", first.look(1, 0), 0);
        Check.due("all unlike", first.look(1, 1), 1);
        EdgeWalk nobody = Check.walk("sheet 2", "turn 1");
        Check.due("nobody", nobody.look(1, 0), -2);
        Check.due("nobody", nobody.look(1, 1), -2);
    }

    private static void folds(EdgeWalk walk, int... want) {
        for (int what = -1; what < 4; what++) {
            Check.due("folds " + what, walk.folds(what), want[what + 1]);
        }
    }

    private static void folds() {
        EdgeWalk walk = Check.walk("sheet 2;goer 0 0 9", "turn 1");
        walk.force(-1);
        folds(walk, 256, 0, 0, 0, 0);
        Check.due("what 4", walk.folds(4), -3);
        Check.due("what -2", walk.folds(-2), -3);
        walk.fold(0, 1);
        walk.stone(2);
        walk.step();
        walk.note(2, 0, 2);
        folds(walk, 64, 2, 0, 0, 0);
        walk.note(3, 0, 0);
        folds(walk, 64, 2, 0, 0, 0);
        walk.note(4, 0, -1);
        walk.note(5, 0, 2);
        folds(walk, 64, 2, 0, 0, 0);
        walk.force(0);
        folds(walk, 0, -2, -2, -2, -2);
        walk.force(-1);
        walk.note(-1, 0, 0);
        walk.note(2, 0, 0);
        folds(walk, 128, 0, 0, 0, 0);
        walk.note(5, 0, 1);
        folds(walk, 32, 0, 0, 1, 0);
        EdgeWalk last = Check.walk("sheet 2;goer 2 3 9");
        last.note(2, 0, 3);
        folds(last, 128, 0, 0, 0, 1);
        EdgeWalk blocked = Check.walk("sheet 2;goer 2 3 9;stone 3");
        blocked.note(3, 0, -1);
        folds(blocked, 128, 0, 0, 0, 1);
        blocked.note(1, 0, -1);
        folds(blocked, 128, 0, 0, 0, 1);
    }
}
