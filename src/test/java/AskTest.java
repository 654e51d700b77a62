/** Promises 16 to 28: how it goes on. */
public final class AskTest {
    /** Up and down the middle column: (4,0) (1,0) out (1,2) (4,2) (7,2) out (7,0), then anew. */
    private static final String COLUMN = "sheet 3;goer 4 0 5";

    public static void main(String[] args) {
        ahead();
        home();
        gone();
        leastFood();
        meet();
        shortest();
        seen();
        longest();
        bestFold();
        bestStone();
        rests();
        ring();
        bread();
        Check.finish();
    }

    private static void ahead() {
        EdgeWalk walk = Check.walk(COLUMN);
        int[] cells = {4, 1, -1, 1, 4, 7, -1, 7, 4};
        int[] faces = {0, 0, 0, 2, 2, 2, 2, 0, 0};
        int[] food = {5, 5, 5, 4, 4, 4, 4, 3, 3};
        for (int n = 0; n < cells.length; n++) {
            Check.due("cell ahead " + n, walk.ahead(0, n, 0), cells[n]);
            Check.due("faces ahead " + n, walk.ahead(0, n, 1), faces[n]);
            Check.due("food ahead " + n, walk.ahead(0, n, 2), food[n]);
        }
        Check.due("lost", walk.ahead(0, 100, 0), -1);
        Check.due("lost faces", walk.ahead(0, 100, 1), 2);
        Check.due("lost food", walk.ahead(0, 100, 2), 0);
        Check.due("n -1", walk.ahead(0, -1, 0), -2);
        Check.due("n 101", walk.ahead(0, 101, 0), -2);
        Check.due("what 3", walk.ahead(0, 0, 3), -2);
        Check.due("what -1", walk.ahead(0, 0, -1), -2);
        Check.due("goer 1", walk.ahead(1, 0, 0), -2);
        Check.due("goer -1", walk.ahead(-1, 0, 0), -2);
        EdgeWalk turning = Check.walk("sheet 3;goer 4 0 5", "turn 1 if step < 2", "turn 0");
        Check.due("by the rule in force", turning.ahead(0, 1, 0), 5);
        turning.force(1);
        Check.due("by the other", turning.ahead(0, 1, 0), 1);
        turning.force(-1);
        Check.due("by none", turning.ahead(0, 1, 0), 1);
    }

    private static void home() {
        EdgeWalk walk = Check.walk("sheet 3;goer 4 0 5;goer 1 0 0;join 0 1 2");
        Check.due("on already", walk.home(0), 0);
        Check.steps(walk, 2);
        Check.due("home", walk.home(0), 5);
        Check.due("lost", walk.home(1), -2);
        walk.step();
        Check.due("home", walk.home(0), 5);
        Check.steps(walk, 2);
        Check.due("home now", walk.home(0), 5);
        Check.due("goer 2", walk.home(2), -1);
        Check.due("goer -1", walk.home(-1), -1);
    }

    private static void gone() {
        EdgeWalk walk = Check.walk(COLUMN + ";goer 1 0 0");
        Check.due("now", walk.gone(0), 0);
        Check.due("one", walk.gone(1), 0);
        Check.due("two", walk.gone(2), 2);
        Check.due("before the last", walk.gone(22), 2);
        Check.due("both", walk.gone(23), 3);
        Check.due("100", walk.gone(100), 3);
        Check.due("101", walk.gone(101), -1);
        Check.due("-1", walk.gone(-1), -1);
        Check.steps(walk, 2);
        Check.due("lost now", walk.gone(0), 2);
    }

    private static void leastFood() {
        EdgeWalk walk = Check.walk(COLUMN);
        Check.due("2 steps", walk.leastFood(0, 2), 0);
        Check.due("3 steps", walk.leastFood(0, 3), 1);
        Check.due("22 steps", walk.leastFood(0, 22), 5);
        Check.due("23 steps", walk.leastFood(0, 23), 6);
        Check.due("100 steps", walk.leastFood(0, 100), 25);
        Check.due("0 steps", walk.leastFood(0, 0), -1);
        Check.due("101 steps", walk.leastFood(0, 101), -1);
        Check.due("goer 1", walk.leastFood(1, 5), -1);
        Check.due("goer -1", walk.leastFood(-1, 5), -1);
        EdgeWalk blocked = Check.walk("sheet 2;goer 0 0 3;stone 0");
        Check.due("60 is just enough", blocked.leastFood(0, 61), 60);
        Check.due("by none", blocked.leastFood(0, 62), -2);
        Check.steps(blocked, 5);
        Check.due("one who is lost", blocked.leastFood(0, 1), -2);
        EdgeWalk picky = Check.walk("sheet 3;goer 4 0 0", "turn 1 if food < 3");
        Check.due("little food may do", picky.leastFood(0, 100), 0);
    }

    private static void meet() {
        EdgeWalk walk = Check.walk("sheet 3;goer 4 0 9;goer 3 3 9;goer 4 2 0;goer 6 1 60;join 3 3 1");
        Check.due("now", walk.meet(0, 2), 0);
        Check.due("either first", walk.meet(2, 0), 0);
        Check.due("0 and 1", walk.meet(0, 1), 4);
        Check.due("alike", walk.meet(1, 1), -1);
        Check.due("goer 4", walk.meet(0, 4), -1);
        Check.due("goer -1", walk.meet(-1, 0), -1);
        Check.due("never", walk.meet(1, 3), -2);
        walk.step();
        Check.due("told by the step of all", walk.meet(0, 1), 4);
        String apart = "sheet 3;goer 3 0 0;goer 4 0 0;stone 0;stone 1";
        Check.due("at the last of 200", Check.walk(apart, "turn 1 if step=198 and goer=0").meet(0, 1), 199);
        Check.due("one too late", Check.walk(apart, "turn 1 if step=199 and goer=0").meet(0, 1), -2);
        EdgeWalk out = Check.walk("sheet 2;goer 0 0 0;goer 0 0 0");
        out.step();
        Check.due("not in the white", out.meet(0, 1), -2);
    }

    private static void shortest() {
        EdgeWalk walk = Check.walk("sheet 3;goer 0 1 0;goer 0 0 0");
        int[] steps = {0, 1, 2, 1, 2, 3, 2, 3, 4};
        for (int cell = 0; cell < 9; cell++) {
            Check.due("to " + cell, walk.shortest(0, cell), steps[cell]);
        }
        Check.due("cell 9", walk.shortest(0, 9), -1);
        Check.due("cell -1", walk.shortest(0, -1), -1);
        Check.due("goer 2", walk.shortest(2, 0), -1);
        walk.fold(0, 2);
        Check.due("by the white", walk.shortest(0, 6), 2);
        Check.due("and on", walk.shortest(0, 8), 4);
        walk.fold(3, 1);
        Check.due("by two", walk.shortest(0, 8), 4);
        walk.step();
        Check.due("one who is out", walk.shortest(1, 0), -1);
        EdgeWalk back = Check.walk("sheet 3;goer 8 1 0;stone 7;stone 4;stone 1");
        Check.due("against the numbers", back.shortest(0, 2), 2);
        back = Check.walk("sheet 3;goer 8 1 0;stone 7;stone 4");
        Check.due("round the stones", back.shortest(0, 6), 6);
        Check.due("to the first", back.shortest(0, 0), 4);
        EdgeWalk walled = Check.walk("sheet 3;goer 0 0 0;stone 1;stone 3;stone 0");
        Check.due("walled in", walled.shortest(0, 4), -2);
        Check.due("here, on a stone", walled.shortest(0, 0), 0);
        Check.due("a stone", walled.shortest(0, 1), -2);
        walled = Check.walk("sheet 3;goer 0 0 0;stone 1;stone 3;join 0 2 9");
        Check.due("nine days", walled.shortest(0, 6), 11);
        Check.due("nine days and on", walled.shortest(0, 4), 13);
        walled.stone(6);
        Check.due("a stone where one comes in", walled.shortest(0, 4), -2);
    }

    private static void seen() {
        EdgeWalk walk = Check.walk(COLUMN + ";goer 1 0 0");
        Check.due("now", walk.seen(0, 0), 1);
        Check.due("1", walk.seen(0, 1), 2);
        Check.due("4", walk.seen(0, 4), 2);
        Check.due("5", walk.seen(0, 5), 3);
        Check.due("100", walk.seen(0, 100), 3);
        Check.due("101", walk.seen(0, 101), -1);
        Check.due("-1", walk.seen(0, -1), -1);
        Check.due("goer 2", walk.seen(2, 0), -1);
        Check.due("goer -1", walk.seen(-1, 0), -1);
        walk.step();
        Check.due("out", walk.seen(1, 50), 0);
    }

    private static void longest() {
        EdgeWalk walk = Check.walk(COLUMN + ";goer 1 0 9;goer 0 0 0");
        Check.due("1 who", walk.longest(1, 0), 1);
        Check.due("1 how many", walk.longest(1, 1), 1);
        Check.due("8 who", walk.longest(8, 0), 0);
        Check.due("8 how many", walk.longest(8, 1), 2);
        Check.due("0", walk.longest(0, 0), -1);
        Check.due("101", walk.longest(101, 0), -1);
        Check.due("100 who", walk.longest(100, 0), 1);
        Check.due("100 how many", walk.longest(100, 1), 10);
        Check.due("what 2", walk.longest(1, 2), -1);
        Check.due("what -1", walk.longest(1, -1), -1);
        EdgeWalk nobody = Check.walk("sheet 2");
        Check.due("nobody", nobody.longest(5, 0), -2);
        Check.due("nobody, 0", nobody.longest(5, 1), 0);
        EdgeWalk stays = Check.walk("sheet 2;goer 0 1 0;stone 1");
        Check.due("never out", stays.longest(5, 0), 0);
        Check.due("never out, 0", stays.longest(5, 1), 0);
    }

    private static void best(EdgeWalk walk, boolean fold, int n, int... want) {
        for (int what = 0; what < want.length; what++) {
            int got = fold ? walk.bestFold(n, what) : walk.bestStone(n, what);
            Check.due((fold ? "bestFold " : "bestStone ") + n + " " + what, got, want[what]);
        }
    }

    private static void bestFold() {
        EdgeWalk walk = Check.walk("sheet 2;goer 0 0 2;stone 0");
        best(walk, true, 5, 0, 1, 0, 1, -1);
        best(walk, true, 40, 0, 1, 0, 1);
        best(walk, true, 1, 0, 2, -2, -2);
        best(walk, true, 2, 0, 1, -2, -2);
        best(walk, true, 3, 0, 1, 0, 1);
        Check.due("n 0", walk.bestFold(0, 0), -1);
        Check.due("n 41", walk.bestFold(41, 0), -1);
        Check.due("what -1", walk.bestFold(1, -1), -1);
        walk.fold(0, 3);
        best(walk, true, 5, 0, 1, 0, 1);
        best(Check.walk("sheet 2;goer 0 0 0"), true, 5, 1, 0, -2, -2);
        best(Check.walk("sheet 2"), true, 5, 0, 0, -2, -2);
        best(Check.walk("sheet 2;goer 0 0 1;join 0 0 9"), true, 5, 1, 0, -2, -2);
        best(Check.walk("sheet 2;goer 1 0 2;join 0 3 0;stone 2"), true, 3, 0, 1, 0, 0);
        best(Check.walk("sheet 2;goer 2 3 2;join 3 0 0;stone 0;stone 1;stone 3"), true, 2, 0, 1, -2, -2);
        best(Check.walk("sheet 3;goer 3 3 2;join 3 0 0;stone 1;stone 5;stone 7"), true, 3, 0, 1, 3, 3);
        best(Check.walk("sheet 2;goer 0 0 0;goer 3 1 9;goer 3 2 9"), true, 5, 1, 14, -2, -2);
    }

    private static void bestStone() {
        EdgeWalk walk = Check.walk("sheet 2;goer 0 0 2;stone 0");
        best(walk, false, 5, 0, 0, 0, -1);
        best(walk, false, 3, 0, 1, 0);
        best(walk, false, 1, 0, 2, -2);
        Check.due("n 0", walk.bestStone(0, 0), -1);
        Check.due("n 41", walk.bestStone(41, 0), -1);
        Check.due("what 3", walk.bestStone(1, 3), -1);
        best(Check.walk("sheet 3;goer 4 0 5"), false, 40, 0, 5, 1);
        best(Check.walk("sheet 2;goer 2 0 9;goer 3 0 9"), false, 6, 0, 16, 0);
    }

    private static void rests() {
        EdgeWalk walk = Check.walk("sheet 2;goer 0 0 0;goer 3 2 0;goer 0 0 0");
        Check.due("how many", walk.rests(0, 1, 1, 0), 4);
        Check.due("one faces", walk.rests(0, 1, 1, 1), 1);
        Check.due("the other faces", walk.rests(0, 1, 1, 2), 0);
        Check.due("turned about", walk.rests(1, 0, 1, 1), 0);
        Check.due("turned about", walk.rests(1, 0, 1, 2), 1);
        Check.due("n 0", walk.rests(0, 1, 0, 0), -1);
        Check.due("n 21", walk.rests(0, 1, 21, 0), -1);
        Check.due("what 3", walk.rests(0, 1, 1, 3), -1);
        Check.due("what -1", walk.rests(0, 1, 1, -1), -1);
        Check.due("alike", walk.rests(0, 0, 1, 0), -1);
        Check.due("goer 3", walk.rests(0, 3, 1, 0), -1);
        Check.due("goer -1", walk.rests(-1, 0, 1, 0), -1);
        walk.way(0, 1);
        walk.step();
        Check.due("one who is out", walk.rests(0, 2, 1, 0), -1);
        EdgeWalk inner = Check.walk("sheet 3;goer 4 0 0;goer 4 0 0");
        Check.due("all", inner.rests(0, 1, 1, 0), 16);
        Check.due("all, one", inner.rests(0, 1, 1, 1), 0);
        Check.due("all, the other", inner.rests(0, 1, 1, 2), 0);
        EdgeWalk corner = Check.walk("sheet 2;goer 3 0 0;goer 2 0 0;stone 0;stone 1");
        Check.due("stones and each other", corner.rests(0, 1, 1, 0), 4);
        Check.due("one", corner.rests(0, 1, 2, 1), 0);
        Check.due("the other", corner.rests(0, 1, 2, 2), 0);
        Check.due("in the end before a stone", corner.rests(0, 1, 20, 0), 1);
        EdgeWalk none = Check.walk("sheet 2;goer 0 0 2;goer 0 0 1;stone 1",
                "turn here*2 if goer=0;turn 1-here if goer=1");
        Check.due("none", none.rests(0, 1, 2, 0), 0);
        Check.due("none, one", none.rests(0, 1, 2, 1), -2);
        Check.due("none, the other", none.rests(0, 1, 2, 2), -2);
    }

    private static void ring() {
        EdgeWalk walk = Check.walk(COLUMN);
        Check.due("ring", walk.ring(0), 0);
        Check.due("how much later", walk.ring(1), 8);
        Check.due("what 2", walk.ring(2), -1);
        Check.due("what -1", walk.ring(-1), -1);
        walk.step();
        Check.due("told by the step of all", walk.ring(0), 1);
        EdgeWalk lost = Check.walk("sheet 2;goer 0 0 0");
        Check.due("lost", lost.ring(0), 2);
        Check.due("lost, next", lost.ring(1), 1);
        EdgeWalk white = Check.walk("sheet 2;goer 0 0 60;stone 0");
        Check.due("waiting in the white", white.ring(0), 1);
        Check.due("waiting, next", white.ring(1), 1);
        EdgeWalk days = Check.walk("sheet 2;goer 0 0 9;join 0 0 9");
        Check.due("days make a difference", days.ring(0), 11);
        Check.due("lost behind 11", days.ring(1), 1);
        EdgeWalk nobody = Check.walk("sheet 2");
        Check.due("nobody", nobody.ring(0), 0);
        Check.due("nobody, next", nobody.ring(1), 1);
        farRings();
    }

    private static void ring(String text, int step, int later) {
        EdgeWalk walk = Check.walk(text);
        Check.due("ring of " + text, walk.ring(0), step);
        Check.due("later of " + text, walk.ring(1), later);
    }

    /** Rings that begin or end just within 60 STEPS from now, and just beyond. */
    private static void farRings() {
        ring("sheet 2;goer 0 0 60;goer 0 1 60;join 0 0 6;join 1 1 4", 0, 60);
        ring("sheet 2;goer 0 0 60;goer 0 1 60;join 0 0 3;join 1 1 1", -2, -2);
        ring("sheet 2;goer 0 0 16;goer 0 1 36;join 1 1 5", 59, 1);
        ring("sheet 2;goer 0 0 16;goer 0 1 37;join 1 1 5", -2, -2);
    }

    private static void bread(EdgeWalk walk, int much, int... want) {
        for (int g = 0; g < want.length; g++) {
            Check.due("bread " + much + " of " + g, walk.bread(much, g), want[g]);
        }
    }

    private static void bread() {
        EdgeWalk walk = Check.walk("sheet 2;goer 0 0 9;goer 1 1 39;goer 2 2 60");
        bread(walk, 0, 0, 0, 0);
        bread(walk, 10, 5, 3, 2);
        bread(walk, 189, 90, 60, 39);
        bread(walk, 190, 91, 60, 39);
        bread(walk, 9999, 4762, 3174, 2063);
        Check.due("much -1", walk.bread(-1, 0), -1);
        Check.due("much 10000", walk.bread(10000, 0), -1);
        Check.due("goer 3", walk.bread(1, 3), -1);
        Check.due("goer -1", walk.bread(1, -1), -1);
        EdgeWalk alike = Check.walk("sheet 2;goer 0 0 9;goer 1 1 9;goer 2 2 9;goer 0 0 9");
        bread(alike, 1, 1, 0, 0, 0);
        bread(alike, 6, 2, 2, 1, 1);
        EdgeWalk full = Check.walk("sheet 2;goer 0 1 60;goer 1 0 0");
        Check.steps(full, 2);
        bread(full, 10, 10, 0, -1);
        full.give(0, 20);
        full.give(0, 20);
        bread(full, 10, 0, 0, -1);
    }
}
