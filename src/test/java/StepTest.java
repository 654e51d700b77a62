/** Promises 7 to 15: what is so, STEPS and the other ACTS, UNDONE. */
public final class StepTest {
    public static void main(String[] args) {
        goers();
        joinsAndStones();
        edges();
        whiteAndLost();
        blockedWayIn();
        words();
        sums();
        clausesAndTests();
        orderOfGoers();
        give();
        way();
        stone();
        fold();
        undo();
        stepLimit();
        Check.finish();
    }

    private static void goer(EdgeWalk walk, int g, int... want) {
        for (int what = 0; what < want.length; what++) {
            Check.due("goer " + g + " " + what + " in step " + walk.count(4), walk.goer(g, what), want[what]);
        }
    }

    private static void goers() {
        EdgeWalk walk = Check.walk("sheet 3;goer 4 0 5;goer 8 3 60");
        goer(walk, 0, 4, 0, 5, 0, 0, 0);
        goer(walk, 1, 8, 3, 60, 0, 0, 0);
        Check.due("goer -1", walk.goer(-1, 0), -2);
        Check.due("goer 2", walk.goer(2, 0), -2);
        Check.due("what -1", walk.goer(0, -1), -2);
        Check.due("what 6", walk.goer(0, 6), -2);
        Check.due("step 1", walk.step(), 3);
        goer(walk, 0, 1, 0, 5, 0, 0, 0);
        goer(walk, 1, 7, 3, 60, 0, 0, 0);
        Check.due("step 2", walk.step(), 2);
        goer(walk, 0, -1, 0, 5, 1, 0, 1);
        Check.due("step 3", walk.step(), 1);
        goer(walk, 0, 1, 2, 4, 0, 0, 1);
        goer(walk, 1, -1, 3, 60, 1, 0, 1);
        Check.due("step 4", walk.step(), 3);
        goer(walk, 0, 4, 2, 4, 0, 0, 1);
        goer(walk, 1, 6, 1, 59, 0, 0, 1);
        Check.due("steps", walk.count(4), 4);
    }

    private static void joinsAndStones() {
        EdgeWalk walk = Check.walk("sheet 2;join 1 3 7;stone 3");
        Check.due("join", walk.join(1, 0), 3);
        Check.due("days", walk.join(1, 1), 7);
        Check.due("at itself", walk.join(2, 0), 2);
        Check.due("edge -1", walk.join(-1, 0), -1);
        Check.due("edge 4", walk.join(4, 0), -1);
        Check.due("what -1", walk.join(0, -1), -1);
        Check.due("what 2", walk.join(0, 2), -1);
        Check.due("stone", walk.stoneIn(3), 1);
        Check.due("no stone", walk.stoneIn(0), 0);
        Check.due("cell -1", walk.stoneIn(-1), -1);
        Check.due("cell 4", walk.stoneIn(4), -1);
    }

    /** Every EDGE leads in at every other: the PLACE stays, the way is away from the EDGE. */
    private static void edges() {
        int[] second = {1, 7, 13, 4};
        for (int edge = 0; edge < 4; edge++) {
            for (int to = 0; to < 4; to++) {
                EdgeWalk walk = Check.walk("sheet 4;goer " + second[edge] + " " + edge + " 1;join " + edge + " " + to + " 0");
                walk.step();
                goer(walk, 0, -1, edge, 1, 1, 0, 1);
                walk.step();
                goer(walk, 0, second[to], (to + 2) % 4, 0, 0, 0, 1);
            }
        }
    }

    private static void whiteAndLost() {
        EdgeWalk walk = Check.walk("sheet 3;goer 0 0 3;join 0 1 2;goer 2 0 2");
        walk.step();
        goer(walk, 0, -1, 0, 3, 1, 2, 1);
        walk.step();
        goer(walk, 0, -1, 0, 2, 1, 1, 1);
        walk.step();
        goer(walk, 0, -1, 0, 1, 1, 0, 1);
        goer(walk, 1, -1, 0, 0, 1, 0, 1);
        Check.due("in again", walk.step(), 1);
        goer(walk, 0, 2, 3, 0, 0, 0, 1);
        goer(walk, 1, -1, 0, 0, 2, 0, 1);
        Check.due("lost", walk.count(6), 2);
        Check.steps(walk, 9);
        goer(walk, 1, -1, 0, 0, 2, 0, 1);
        Check.due("lost with days left", lostWithDays(), 2);
    }

    private static int lostWithDays() {
        EdgeWalk walk = Check.walk("sheet 2;goer 0 0 0;join 0 0 9");
        Check.steps(walk, 2);
        Check.due("no days", walk.goer(0, 4), 0);
        return walk.goer(0, 3);
    }

    private static void blockedWayIn() {
        EdgeWalk walk = Check.walk("sheet 2;goer 0 0 3;join 0 1 0;stone 1");
        Check.steps(walk, 2);
        goer(walk, 0, -1, 0, 2, 1, 0, 1);
        Check.steps(walk, 2);
        goer(walk, 0, -1, 0, 0, 1, 0, 1);
        walk.give(0, 1);
        walk.stone(1);
        walk.step();
        goer(walk, 0, 1, 3, 0, 0, 0, 1);
        walk = Check.walk("sheet 3;goer 4 1 9;stone 5;stone 4");
        Check.steps(walk, 5);
        goer(walk, 0, 4, 1, 9, 0, 0, 0);
        walk = Check.walk("sheet 2;goer 0 0 9;join 0 1 1");
        Check.steps(walk, 2);
        walk.fold(0, 2);
        walk.step();
        goer(walk, 0, 2, 0, 7, 0, 0, 1);
    }

    /** In STEP 2, once OUT, at row 1, column 2 before a STONE, with one more GOER there. */
    private static void words() {
        String[] words = {"goer", "cell", "row", "column", "faces", "food", "margin", "stone", "here", "been", "step"};
        int[] want = {1, 7, 1, 3, 3, 29, 3, 1, 1, 1, 2};
        for (int k = 0; k < words.length; k++) {
            for (int more = -1; more <= 1; more++) {
                if (want[k] + more < 0) {
                    continue;
                }
                String rule = "turn 1 if goer = 1 and been = 1 and " + words[k] + " = " + (want[k] + more);
                EdgeWalk walk = Check.walk("sheet 4;goer 7 0 9;goer 7 1 30;stone 6;stone 3", rule);
                Check.steps(walk, 2);
                goer(walk, 1, 7, 3, 29, 0, 0, 1);
                goer(walk, 0, 7, 0, 9);
                walk.step();
                Check.due(rule, walk.goer(1, 1), more == 0 ? 0 : 3);
            }
        }
        margins();
        EdgeWalk walk = Check.walk("sheet 3;goer 2 1 9;stone 0", "turn 2 if stone = 1");
        walk.step();
        Check.due("no stone beyond the edge", walk.goer(0, 3), 1);
    }

    /** At row 1, column 3 of 5. */
    private static void margins() {
        int[] margins = {1, 1, 3, 3};
        for (int faces = 0; faces < 4; faces++) {
            for (int margin = 0; margin < 5; margin++) {
                EdgeWalk walk = Check.walk("sheet 5;goer 8 " + faces + " 9", "turn 2 if margin = " + margin);
                walk.step();
                int want = margin == margins[faces] ? (faces + 2) % 4 : faces;
                Check.due("margin " + margin + " of " + faces, walk.goer(0, 1), want);
            }
        }
    }

    private static int turned(String sum) {
        EdgeWalk walk = Check.walk("sheet 5;goer 12 0 0", "turn " + sum);
        walk.step();
        return walk.goer(0, 1);
    }

    private static void sums() {
        Check.due("2-3", turned("2-3"), 3);
        Check.due("1-99999", turned("1-99999"), 2);
        Check.due("7/2", turned("7/2"), 3);
        Check.due("7%4", turned("7%4"), 3);
        Check.due("5/0+1", turned("5/0+1"), 1);
        Check.due("5%0+2", turned("5%0+2"), 2);
        Check.due("1+2*3", turned("1+2*3"), 3);
        Check.due("9-3-1", turned("9-3-1"), 1);
        Check.due("9-3+1", turned("9-3+1"), 3);
        Check.due("16/4*3/2", turned("16/4*3/2"), 2);
        Check.due("7%5*3", turned("7%5*3"), 2);
        Check.due("0-7/2", turned("0-7/2"), 1);
        Check.due("9-2*3", turned("9-2*3"), 3);
        Check.due("2*3-3", turned("2*3-3"), 3);
        Check.due("9-8/4*2", turned("9-8/4*2"), 1);
        Check.due("1+7%3", turned("1+7%3"), 2);
        long round = 99999L * 99999L * 99999L * 99999L;
        for (int by = 3; by <= 5; by++) {
            Check.due("round by " + by, turned("99999*99999*99999*99999/" + by),
                    (int) Math.floorMod(round / by, 4L));
            Check.due("rest by " + by, turned("99999*99999*99999*99999%" + by),
                    (int) Math.floorMod(round % by, 4L));
        }
        long below = 99999L * 99999L * 99999L * 99999L * 3;
        Check.due("round below 0", turned("99999*99999*99999*99999*3/7"), (int) Math.floorMod(below / 7, 4L));
        Check.due("rest below 0", turned("99999*99999*99999*99999*3%7"), (int) Math.floorMod(below % 7, 4L));
    }

    private static void holds(String test, boolean want) {
        Check.due(test, turned("1 if " + test), want ? 1 : 0);
    }

    private static void clausesAndTests() {
        Check.due("first that holds", turned("1 if 1=2;turn 2 if 1=1;turn 3"), 2);
        Check.due("first without a test", turned("3;turn 2"), 3);
        Check.due("none holds", turned("1 if 1=2;turn 2 if 2=3"), 0);
        holds("1<2", true);
        holds("2<2", false);
        holds("2<=2", true);
        holds("3<=2", false);
        holds("2=2", true);
        holds("2=3", false);
        holds("2>=2", true);
        holds("1>=2", false);
        holds("3>2", true);
        holds("2>2", false);
        holds("0-1<0", true);
        holds("not 3=2", true);
        holds("not 2=2", false);
        holds("1=0+1", true);
        holds("5=2*2+1", true);
        holds("0=1-1", true);
        holds("1>0+1", false);
        holds("1<=2-2", false);
        holds("1>=0+2", false);
        holds("2<1+1", false);
        holds("1=1 or 1=2 and 1=2", true);
        holds("[1=1 or 1=2] and 1=2", false);
        holds("not 1=2 and 1=2", false);
        holds("not [1=2 and 1=2]", true);
        holds("not not 1=1", true);
        holds("not 1=1 or 1=1", true);
        holds("not [1=1 or 1=1]", false);
        holds("1+1=2 and 2*3-1=5 and 7/2=3", true);
        holds("1=2 and 1=1 or 1=1", true);
    }

    /** Each goes by how all is then: the second finds the first gone, or there. */
    private static void orderOfGoers() {
        EdgeWalk walk = Check.walk("sheet 3;goer 3 1 0;goer 4 0 0", "turn 2 if here = 1 and goer = 1");
        walk.step();
        goer(walk, 0, 4, 1);
        goer(walk, 1, 7, 2);
        walk = Check.walk("sheet 3;goer 4 1 0;goer 4 0 0", "turn 2 if here = 1 and goer = 1");
        walk.step();
        goer(walk, 1, 1, 0);
    }

    private static void give() {
        EdgeWalk walk = Check.walk("sheet 2;goer 0 0 60;goer 1 0 0");
        Check.due("give", walk.give(0, 20), 80);
        Check.due("give 1", walk.give(0, 1), 81);
        Check.due("give to 99", walk.give(0, 19), 99);
        Check.due("give at 99", walk.give(0, 20), 99);
        Check.due("acts", walk.count(10), 4);
        Check.due("give 0", walk.give(0, 0), -1);
        Check.due("give 21", walk.give(0, 21), -1);
        Check.due("give -1", walk.give(0, -1), -1);
        Check.due("goer 2", walk.give(2, 1), -1);
        Check.due("goer -1", walk.give(-1, 1), -1);
        walk.step();
        Check.due("give one who is out", walk.give(0, 1), 99);
        walk.step();
        Check.due("give a lost one", walk.give(1, 5), -1);
        Check.due("acts", walk.count(10), 7);
    }

    private static void way() {
        EdgeWalk walk = Check.walk("sheet 2;goer 0 0 60");
        Check.due("way", walk.way(0, 1), 0);
        Check.due("faces", walk.goer(0, 1), 1);
        Check.due("the same way", walk.way(0, 1), -1);
        Check.due("way 4", walk.way(0, 4), -1);
        Check.due("way -1", walk.way(0, -1), -1);
        Check.due("goer 1", walk.way(1, 0), -1);
        Check.due("goer -1", walk.way(-1, 0), -1);
        Check.due("acts", walk.count(10), 1);
        walk.way(0, 3);
        walk.step();
        Check.due("way of one who is out", walk.way(0, 1), -1);
    }

    private static void stone() {
        EdgeWalk walk = Check.walk("sheet 2;goer 0 0 60;stone 3");
        Check.due("laid", walk.stone(0), 1);
        Check.due("stones", walk.count(8), 2);
        Check.due("taken", walk.stone(3), 0);
        Check.due("stones", walk.count(8), 1);
        Check.due("there", walk.stoneIn(0), 1);
        Check.due("gone", walk.stoneIn(3), 0);
        Check.due("cell 4", walk.stone(4), -1);
        Check.due("cell -1", walk.stone(-1), -1);
        Check.due("acts", walk.count(10), 2);
    }

    private static void fold() {
        EdgeWalk walk = Check.walk("sheet 2;join 2 0 4");
        Check.due("fold", walk.fold(2, 3), 0);
        Check.due("leads", walk.join(2, 0), 3);
        Check.due("days stay", walk.join(2, 1), 4);
        Check.due("the same", walk.fold(2, 3), -1);
        Check.due("itself", walk.fold(2, 2), 3);
        Check.due("itself again", walk.fold(1, 1), -1);
        Check.due("edge 4", walk.fold(4, 0), -1);
        Check.due("edge -1", walk.fold(-1, 0), -1);
        Check.due("other 4", walk.fold(0, 4), -1);
        Check.due("other -1", walk.fold(0, -1), -1);
        Check.due("acts", walk.count(10), 2);
    }

    private static void undo() {
        EdgeWalk walk = Check.walk("sheet 3;goer 1 0 5;stone 4", "turn 0");
        walk.step();
        walk.give(0, 3);
        walk.stone(4);
        walk.fold(0, 2);
        walk.step();
        walk.way(0, 3);
        walk.force(-1);
        walk.seed(9);
        walk.note(1, 0, -1);
        Check.due("way undone", walk.undo(), 5);
        goer(walk, 0, 7, 0, 7, 0, 0, 1);
        Check.due("step undone", walk.undo(), 4);
        goer(walk, 0, -1, 0, 8, 1, 0, 1);
        Check.due("step", walk.count(4), 1);
        Check.due("fold undone", walk.undo(), 3);
        Check.due("leads", walk.join(0, 0), 0);
        Check.due("stone undone", walk.undo(), 2);
        Check.due("stone", walk.stoneIn(4), 1);
        Check.due("give undone", walk.undo(), 1);
        Check.due("food", walk.goer(0, 2), 5);
        Check.due("first undone", walk.undo(), 0);
        goer(walk, 0, 1, 0, 5, 0, 0, 0);
        Check.due("none", walk.undo(), -1);
        Check.due("the rule in force is no act", walk.count(3), -1);
        Check.due("x is no act", walk.count(11), 9);
        Check.due("notes are no acts", walk.count(9), 1);
        for (int k = 0; k < 25; k++) {
            walk.give(0, 1);
        }
        Check.due("twenty", walk.count(10), 20);
        for (int k = 19; k >= 0; k--) {
            Check.due("undone", walk.undo(), k);
        }
        Check.due("no more", walk.undo(), -1);
        Check.due("the first five stay", walk.goer(0, 2), 10);
    }

    private static void stepLimit() {
        EdgeWalk walk = Check.walk("sheet 2;goer 0 1 0;stone 1");
        Check.steps(walk, 998);
        Check.due("step 998", walk.count(4), 998);
        Check.due("to 999", walk.step(), 1);
        Check.due("beyond", walk.step(), -1);
        Check.due("step 999", walk.count(4), 999);
        Check.due("asked beyond", walk.ahead(0, 100, 0), 0);
    }
}
