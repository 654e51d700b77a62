/** Promises 1 to 6: a new object, the TAPE, the SHEET, RULES. */
public final class TapeTest {
    public static void main(String[] args) {
        newObject();
        feedAndEnd();
        byteOrder();
        sheet();
        sheetReplaced();
        sheetRefused();
        rule();
        force();
        Check.finish();
    }

    private static void newObject() {
        EdgeWalk walk = new EdgeWalk();
        for (int what = 0; what <= 12; what++) {
            Check.due("new count " + what, walk.count(what), what == 3 ? -1 : 0);
        }
        Check.due("new goer", walk.goer(0, 0), -2);
        Check.due("new join", walk.join(0, 0), -1);
        Check.due("new stoneIn", walk.stoneIn(0), -1);
        Check.due("new step", walk.step(), -1);
        Check.due("new give", walk.give(0, 1), -1);
        Check.due("new way", walk.way(0, 1), -1);
        Check.due("new stone", walk.stone(0), -1);
        Check.due("new fold", walk.fold(0, 1), -1);
        Check.due("new undo", walk.undo(), -1);
        Check.due("new ahead", walk.ahead(0, 0, 0), -2);
        Check.due("new home", walk.home(0), -1);
        Check.due("new gone", walk.gone(0), -1);
        Check.due("new leastFood", walk.leastFood(0, 1), -1);
        Check.due("new meet", walk.meet(0, 1), -1);
        Check.due("new shortest", walk.shortest(0, 0), -1);
        Check.due("new seen", walk.seen(0, 0), -1);
        Check.due("new longest", walk.longest(1, 0), -1);
        Check.due("new bestFold", walk.bestFold(1, 0), -1);
        Check.due("new bestStone", walk.bestStone(1, 0), -1);
        Check.due("new rests", walk.rests(0, 1, 1, 0), -1);
        Check.due("new ring", walk.ring(0), -1);
        Check.due("new bread", walk.bread(0, 0), -1);
        Check.due("new note", walk.note(0, 0, 0), -2);
        Check.due("new note none", walk.note(-1, 0, 0), 0);
        Check.due("new ruled", walk.ruled(0), -3);
        Check.due("new look", walk.look(0, 0), -1);
        Check.due("new folds", walk.folds(-1), -3);
        Check.due("new gusts", walk.gusts(1, 1, 0, 0), -1);
        Check.due("new back", walk.back(0), -1);
        Check.due("new force none", walk.force(-1), -1);
        Check.due("new force 0", walk.force(0), -2);
        Check.due("new sheet", walk.sheet(), Check.fault(0, 0));
        Check.due("new rule", walk.rule(), Check.fault(0, 0));
        Check.due("NONE", EdgeWalk.NONE, -1);
    }

    private static void feedAndEnd() {
        EdgeWalk walk = new EdgeWalk();
        Check.due("end 0", walk.end(0), 0);
        Check.due("end 1 of none", walk.end(1), -1);
        for (int k = 1; k <= 20; k++) {
            Check.due("feed " + k, walk.feed(k, -1, Integer.MIN_VALUE, Integer.MAX_VALUE, 0), 20 * k);
        }
        Check.due("feed beyond", walk.feed(0, 0, 0, 0, 0), -1);
        Check.due("bytes", walk.count(12), 400);
        Check.due("end beyond", walk.end(401), -1);
        Check.due("end below", walk.end(-1), -1);
        Check.due("end most", walk.end(400), 400);
        Check.due("end 381", walk.end(381), 381);
        Check.due("feed 381", walk.feed(0, 0, 0, 0, 0), -1);
        Check.due("end 380", walk.end(380), 380);
        Check.due("feed 380", walk.feed(0, 0, 0, 0, 0), 400);
        Check.due("end 7", walk.end(7), 7);
        Check.due("feed 7", walk.feed(0, 0, 0, 0, 0), 27);
        Check.due("bytes", walk.count(12), 27);
    }

    private static void byteOrder() {
        EdgeWalk walk = new EdgeWalk();
        walk.feed(0x73686565, 0x7420323b, 0x676f6572, 0x20332031, 0x20350000);
        walk.end(18);
        Check.due("bytes in order", walk.sheet(), 1);
        Check.due("cell", walk.goer(0, 0), 3);
        Check.due("faces", walk.goer(0, 1), 1);
        Check.due("food", walk.goer(0, 2), 5);
    }

    private static void sheet() {
        EdgeWalk walk = new EdgeWalk();
        String text = " sheet 3 ;goer 4 0 5;goer0 3 60;join 0 2 1;join 0 1 9;join3 2 0 ; stone 5;stone5;goer 8 2 0 ";
        Check.due("sheet", Check.sheet(walk, text), 3);
        Check.due("tape", walk.count(12), 0);
        Check.due("side", walk.count(0), 3);
        Check.due("goers", walk.count(1), 3);
        Check.due("step", walk.count(4), 0);
        Check.due("on", walk.count(5), 7);
        Check.due("lost", walk.count(6), 0);
        Check.due("food", walk.count(7), 65);
        Check.due("stones", walk.count(8), 1);
        Check.due("the last join of an edge", walk.join(0, 0), 1);
        Check.due("its days", walk.join(0, 1), 9);
        Check.due("join 1 at itself", walk.join(1, 0), 1);
        Check.due("join 1 days", walk.join(1, 1), 0);
        Check.due("join 3", walk.join(3, 0), 2);
        Check.due("stone", walk.stoneIn(5), 1);
        Check.due("no stone", walk.stoneIn(4), 0);
        Check.due("second goer", walk.goer(1, 0), 0);
        Check.due("third goer", walk.goer(2, 0), 8);
        Check.due("no goers", Check.sheet(new EdgeWalk(), "sheet 6"), 0);
        Check.due("five goers on one stone",
                Check.sheet(new EdgeWalk(), "sheet 2;stone 3" + ";goer 3 0 0".repeat(5)), 5);
        Check.due("leading noughts", Check.sheet(new EdgeWalk(), "sheet 00002;goer 00003 0 00060"), 1);
        Check.due("40 clauses", Check.sheet(new EdgeWalk(), "sheet 2" + ";stone 3".repeat(39)), 0);
    }

    private static void sheetReplaced() {
        EdgeWalk walk = Check.walk("sheet 3;goer 4 0 5;stone 0", "turn 1");
        walk.seed(77);
        walk.note(0, 0, 4);
        Check.steps(walk, 3);
        Check.due("another sheet", Check.sheet(walk, "sheet 2;goer 1 1 1;goer 2 2 2"), 2);
        Check.due("side", walk.count(0), 2);
        Check.due("step", walk.count(4), 0);
        Check.due("notes", walk.count(9), 0);
        Check.due("acts", walk.count(10), 0);
        Check.due("undo", walk.undo(), -1);
        Check.due("stones", walk.count(8), 0);
        Check.due("rules stay", walk.count(2), 1);
        Check.due("rule in force stays", walk.count(3), 0);
        Check.due("x stays", walk.count(11), 77);
        Check.due("been", walk.goer(0, 5), 0);
    }

    private static void sheetRefused() {
        EdgeWalk walk = Check.walk("sheet 3;goer 4 0 5;stone 0");
        walk.note(0, 0, 4);
        walk.step();
        Check.due("refused", Check.sheet(walk, "sheet 2;goer 0 0 0;stone 9"), Check.fault(25, 1));
        Check.due("side stays", walk.count(0), 3);
        Check.due("step stays", walk.count(4), 1);
        Check.due("notes stay", walk.count(9), 1);
        Check.due("acts stay", walk.count(10), 1);
        Check.due("the tape is empty", walk.count(12), 0);
        Check.due("goer stays", walk.goer(0, 0), 1);
    }

    private static void rule() {
        EdgeWalk walk = new EdgeWalk();
        for (int k = 0; k < 6; k++) {
            Check.due("rule " + k, Check.rule(walk, "turn " + k), k);
            Check.due("tape", walk.count(12), 0);
            Check.due("refused", Check.rule(walk, "turn"), k < 5 ? Check.fault(4, 0) : -1);
            Check.due("tape of a refused one", walk.count(12), k < 5 ? 0 : 4);
        }
        Check.due("rules", walk.count(2), 6);
        Check.due("a seventh", Check.rule(walk, "turn 1"), -1);
        Check.due("its tape stays", walk.count(12), 6);
        Check.due("rules", walk.count(2), 6);
    }

    private static void force() {
        EdgeWalk walk = new EdgeWalk();
        Check.rule(walk, "turn 1");
        Check.rule(walk, "turn 2");
        Check.due("force 1", walk.force(1), -1);
        Check.due("force 0", walk.force(0), 1);
        Check.due("force 2", walk.force(2), -2);
        Check.due("force -2", walk.force(-2), -2);
        Check.due("in force", walk.count(3), 0);
        Check.due("force none", walk.force(-1), 0);
        Check.due("in force", walk.count(3), -1);
    }
}
