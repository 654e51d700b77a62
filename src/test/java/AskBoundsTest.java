/** Each sentence of part III and promises 16 to 28 that names a bound, a tie, or what can't be asked. */
public final class AskBoundsTest {
    public static void main(String[] args) {
        nothingChanges();
        byTheRuleInForce();
        ahead();
        aheadRefused();
        home();
        homeRefused();
        gone();
        goneRefused();
        leastFood();
        leastFoodRefused();
        meet();
        meetRefused();
        shortest();
        shortestFar();
        shortestRefused();
        seen();
        seenRefused();
        longest();
        longestRefused();
        bestFold();
        bestFoldTies();
        bestFoldRefused();
        bestStone();
        bestStoneRefused();
        rests();
        restsOfTwo();
        restsRefused();
        ring();
        ringOut();
        ringRefused();
        bread();
        breadRefused();
        Check.finish();
    }

    private static void terms(String quote) {
        Check.says("Terms", quote);
    }

    /** Stays where he is, before a STONE, and goes on to CELL 5 in one STEP alone. */
    private static EdgeWalk movesIn(int step) {
        return Check.walk("sheet 3;goer 4 0 9;stone 1", "turn 1 if step = " + step);
    }

    /** Stays at the edge, before a STONE, and goes OUT in one STEP alone. */
    private static EdgeWalk leavesIn(int step) {
        return Check.walk("sheet 3;goer 5 0 9;stone 2;join 1 1 9", "turn 1 if step = " + step);
    }

    /** Waits in the white before a STONE from the first STEP on, with so much FOOD. */
    private static EdgeWalk waits(int food) {
        EdgeWalk walk = Check.walk("sheet 2;goer 0 0 " + Math.min(60, food) + ";stone 0");
        for (int more = food - 60; more > 0; more -= 20) {
            walk.give(0, Math.min(20, more));
        }
        return walk;
    }

    private static void askAll(EdgeWalk walk) {
        walk.ahead(0, 100, 0);
        walk.home(1);
        walk.gone(100);
        walk.leastFood(3, 100);
        walk.meet(0, 1);
        walk.shortest(0, 8);
        walk.seen(0, 100);
        walk.longest(100, 0);
        walk.bestFold(40, 2);
        walk.bestStone(40, 2);
        walk.rests(0, 1, 20, 0);
        walk.ring(0);
        walk.bread(9999, 0);
        walk.ruled(0);
        walk.look(60, 0);
        walk.folds(-1);
        walk.gusts(10, 60, 100, 0);
        walk.count(4);
        walk.goer(0, 0);
        walk.join(0, 0);
        walk.stoneIn(0);
    }

    private static void nothingChanges() {
        terms("(By what is asked nothing changes; STEPS go on by the RULE IN FORCE.)");
        EdgeWalk asked = Twin.busy();
        askAll(asked);
        Twin.same("all asked", Twin.busy(), asked);
        EdgeWalk nobody = new EdgeWalk();
        askAll(nobody);
        Twin.same("all asked without a sheet", new EdgeWalk(), nobody);
        EdgeWalk on = Check.walk("sheet 3;goer 4 0 9;goer 4 1 9", "turn 1");
        askAll(on);
        Twin.same("all asked of two who are on", Check.walk("sheet 3;goer 4 0 9;goer 4 1 9", "turn 1"), on);
    }

    private static void byTheRuleInForce() {
        terms("STEPS go on by the RULE IN FORCE.)");
        EdgeWalk walk = Check.walk("sheet 3;goer 4 0 9;goer 7 2 0", "turn 2 if goer = 1 and step = 0");
        int[][] want = {{2, 1, 1, 1, 1, 1, -1}, {0, 0, 2, 0, 0, 0, 4}};
        for (int rule = -1; rule <= 0; rule++) {
            walk.force(rule);
            int[] due = want[rule + 1];
            Check.due("gone by " + rule, walk.gone(2), due[0]);
            Check.due("least food by " + rule, walk.leastFood(1, 2), due[1]);
            Check.due("seen by " + rule, walk.seen(1, 1), due[2]);
            Check.due("longest by " + rule, walk.longest(1, 1), due[3]);
            Check.due("best fold by " + rule, walk.bestFold(2, 0), due[4]);
            Check.due("best stone by " + rule, walk.bestStone(2, 0), due[5]);
            Check.due("ahead by " + rule, walk.ahead(1, 1, 0), due[6]);
        }
    }

    private static void ahead() {
        terms("AHEAD n STEPS (0 to 100): the CELL of a GOER; how he FACES (as he went OUT, if he is OUT or LOST); FOOD.");
        Check.says(16, "AHEAD what 0: the CELL (NONE: not ON), 1: FACES, 2: FOOD.");
        Check.due("not yet", movesIn(99).ahead(0, 99, 0), 4);
        Check.due("behind 100", movesIn(99).ahead(0, 100, 0), 5);
        Check.due("too late for 100", movesIn(100).ahead(0, 100, 0), 4);
        Check.due("faces behind 100", movesIn(99).ahead(0, 100, 1), 1);
        EdgeWalk walk = Twin.busy();
        for (int g = 0; g < 4; g++) {
            for (int what = 0; what < 3; what++) {
                Check.due("ahead 0", walk.ahead(g, 0, what), walk.goer(g, what));
            }
        }
        EdgeWalk hand = Twin.busy();
        for (int n = 0; n <= 100; n++) {
            for (int g = 0; g < 4; g++) {
                Check.due("cell " + n, walk.ahead(g, n, 0), hand.goer(g, 0));
                Check.due("faces " + n, walk.ahead(g, n, 1), hand.goer(g, 1));
                Check.due("food " + n, walk.ahead(g, n, 2), hand.goer(g, 2));
            }
            hand.step();
        }
        Check.due("out faces", leavesIn(99).ahead(0, 100, 1), 1);
        Check.due("lost cell", waits(3).ahead(0, 100, 0), -1);
        Check.due("lost faces", waits(3).ahead(0, 100, 1), 0);
        Check.due("food left", waits(99).ahead(0, 99, 2), 1);
        Check.due("the last food", waits(99).ahead(0, 100, 2), 0);
    }

    private static void aheadRefused() {
        Check.says(16, "-2 without these.");
        EdgeWalk walk = Twin.busy();
        Check.beyond("goer", 0, 3, -2, g -> walk.ahead(g, 1, 0));
        Check.beyond("n", 0, 100, -2, n -> walk.ahead(0, n, 0));
        Check.beyond("what", 0, 2, -2, what -> walk.ahead(0, 1, what));
        Check.due("no goers", Check.walk("sheet 2").ahead(0, 0, 0), -2);
        Check.due("no sheet", new EdgeWalk().ahead(0, 0, 0), -2);
    }

    private static void home() {
        terms("HOME of a GOER: the first STEP, this one the first, of 200, at whose begin he is ON.");
        Check.says(17, "HOME; -2: at none of these");
        for (int days = 0; days <= 9; days++) {
            EdgeWalk walk = Check.walk("sheet 2;goer 0 0 " + (days + 1) + ";join 0 1 " + days);
            Check.due("this one", walk.home(0), 0);
            for (int k = 0; k < days + 1; k++) {
                walk.step();
                Check.due("with days " + days + " in step " + (k + 1), walk.home(0), days + 2);
            }
            walk.step();
            Check.due("this one again", walk.home(0), days + 2);
            EdgeWalk hungry = Check.walk("sheet 2;goer 0 0 " + days + ";join 0 1 " + days);
            hungry.step();
            Check.due("he will be lost", hungry.home(0), -2);
        }
        EdgeWalk waits = waits(99);
        waits.step();
        Check.due("a stone where he comes in", waits.home(0), -2);
        waits.stone(0);
        Check.due("none there", waits.home(0), 2);
        Check.due("lost", Twin.busy().home(2), -2);
    }

    private static void homeRefused() {
        Check.says(17, "NONE without that GOER.");
        EdgeWalk walk = Twin.busy();
        Check.beyond("goer", 0, 3, -1, walk::home);
        Check.due("no goers", Check.walk("sheet 2").home(0), -1);
        Check.due("no sheet", new EdgeWalk().home(0), -1);
    }

    private static void gone() {
        terms("GONE: GOERS who are LOST behind n STEPS (0 to 100).");
        Check.says(18, "GONE, as bits");
        for (int food = 0; food <= 98; food += 14) {
            Check.due("not yet with " + food, waits(food).gone(food + 1), 0);
            Check.due("lost with " + food, waits(food).gone(food + 2), 1);
        }
        Check.due("not behind 99", waits(98).gone(99), 0);
        Check.due("behind 100", waits(98).gone(100), 1);
        Check.due("beyond 100", waits(99).gone(100), 0);
        EdgeWalk walk = Check.walk("sheet 2;goer 0 1 9;goer 0 0 0;goer 0 0 1;goer 0 0 2;goer 0 0 0;stone 1;stone 0");
        int[] bits = {0, 0, 18, 22, 30, 30};
        for (int n = 0; n < bits.length; n++) {
            Check.due("bits behind " + n, walk.gone(n), bits[n]);
        }
        Check.due("lost now", Twin.busy().gone(0), 4);
        Check.due("nobody", Check.walk("sheet 2").gone(100), 0);
    }

    private static void goneRefused() {
        Check.says(18, "NONE without these, or a SHEET.");
        EdgeWalk walk = Twin.busy();
        Check.beyond("n", 0, 100, -1, walk::gone);
        Check.due("no sheet", new EdgeWalk().gone(0), -1);
    }

    private static void leastFood() {
        terms("LEAST FOOD of a GOER for n STEPS (1 to 100): the least, 0 to 60, in place of what he has, "
                + "so that he is not LOST behind these.");
        Check.says(19, "LEAST FOOD; -2: by none");
        for (int has = 0; has <= 99; has += 33) {
            for (int n = 1; n <= 100; n++) {
                int want = n - 1 <= 60 ? n - 1 : -2;
                if (n <= 3 || n >= 60 && n <= 63 || n == 100) {
                    Check.due("for " + n + " with " + has, waits(has).leastFood(0, n), want);
                }
            }
        }
        Check.due("one who stays on needs none", movesIn(200).leastFood(0, 100), 0);
        Check.due("out in the 99th, lost in the 100th", leavesIn(98).leastFood(0, 100), 1);
        Check.due("out in the 100th", leavesIn(99).leastFood(0, 100), 0);
        EdgeWalk out = waits(5);
        out.step();
        Check.due("one who is out", out.leastFood(0, 1), 1);
        Check.due("60 more", out.leastFood(0, 60), 60);
        Check.due("61 more", out.leastFood(0, 61), -2);
        Check.due("one who is lost", Twin.busy().leastFood(2, 1), -2);
        EdgeWalk picky = Check.walk("sheet 2;goer 0 1 7;stone 1;stone 0", "turn 3 if food < 60 and step = 0");
        Check.due("with less than 60 he goes out", picky.leastFood(0, 100), 60);
        picky = Check.walk("sheet 2;goer 0 1 7;stone 1;stone 0", "turn 3 if food < 61 and step = 0");
        Check.due("not with 61", picky.leastFood(0, 100), -2);
    }

    private static void leastFoodRefused() {
        Check.says(19, "NONE without these.");
        EdgeWalk walk = Twin.busy();
        Check.beyond("goer", 0, 3, -1, g -> walk.leastFood(g, 1));
        Check.beyond("n", 1, 100, -1, n -> walk.leastFood(0, n));
        Check.due("no goers", Check.walk("sheet 2").leastFood(0, 1), -1);
        Check.due("no sheet", new EdgeWalk().leastFood(0, 1), -1);
    }

    private static EdgeWalk meetsBehind(int step, int from) {
        EdgeWalk walk = Check.walk("sheet 3;goer 3 0 0;goer 4 0 0;stone 0;stone 1",
                "turn 1 if step = " + step + " and goer = 0");
        Check.steps(walk, from);
        return walk;
    }

    private static void meet() {
        terms("MEET of two GOERS: the first STEP, this one the first, of 200, at whose begin both are ON, in one CELL.");
        Check.says(20, "MEET; -2: at none of these");
        Check.due("this one", Check.walk("sheet 3;goer 4 0 0;goer 4 2 0").meet(0, 1), 0);
        Check.due("the next", meetsBehind(0, 0).meet(0, 1), 1);
        Check.due("the 200th", meetsBehind(198, 0).meet(0, 1), 199);
        Check.due("behind the 200th", meetsBehind(199, 0).meet(0, 1), -2);
        Check.due("the 200th from step 5", meetsBehind(203, 5).meet(0, 1), 204);
        Check.due("behind it from step 5", meetsBehind(204, 5).meet(0, 1), -2);
        Check.due("the other first", meetsBehind(198, 0).meet(1, 0), 199);
        EdgeWalk pass = Check.walk("sheet 2;goer 0 1 0;goer 1 3 0;stone 2;stone 3");
        Check.due("they pass one another", pass.meet(0, 1), -2);
        EdgeWalk out = Check.walk("sheet 2;goer 0 0 9;goer 0 0 9;join 0 0 3");
        Check.steps(out, 1);
        Check.due("not in the white, but behind it", out.meet(0, 1), 5);
        EdgeWalk one = Check.walk("sheet 2;goer 0 0 0;goer 0 1 0;stone 1");
        one.step();
        Check.due("one is out of the cell of the other", one.meet(0, 1), -2);
        EdgeWalk lost = Check.walk("sheet 2;goer 0 0 0;goer 0 0 0");
        Check.steps(lost, 2);
        Check.due("both lost", lost.meet(0, 1), -2);
    }

    private static void meetRefused() {
        Check.says(20, "NONE without these (unlike).");
        EdgeWalk walk = Twin.busy();
        for (int g = 0; g < 4; g++) {
            Check.due("alike", walk.meet(g, g), -1);
        }
        Check.beyond("one", 0, 3, -1, g -> walk.meet(g, 0));
        Check.beyond("other", 0, 3, -1, g -> walk.meet(0, g));
        Check.due("one alone", Check.walk("sheet 2;goer 0 0 0").meet(0, 1), -1);
        Check.due("no sheet", new EdgeWalk().meet(0, 1), -1);
    }

    private static void shortest() {
        terms("SHORTEST way of a GOER who is ON to a CELL: the fewest STEPS, if he turns as he likes in each "
                + "(no FOOD is asked), so that he is in it then (0 if he is)");
        for (int days = 0; days <= 9; days++) {
            EdgeWalk walk = Check.walk("sheet 3;goer 0 1 0;stone 1;stone 3;join 0 2 " + days);
            Check.due("here", walk.shortest(0, 0), 0);
            Check.due("by the white in days " + days, walk.shortest(0, 6), days + 2);
            Check.due("and one on", walk.shortest(0, 7), days + 3);
        }
        EdgeWalk corner = Check.walk("sheet 6;goer 0 2 0");
        Check.due("across", corner.shortest(0, 35), 10);
        corner.fold(0, 2);
        Check.due("by the white, one step more on each side", corner.shortest(0, 35), 7);
        corner.fold(3, 1);
        Check.due("by both margins", corner.shortest(0, 35), 4);
        EdgeWalk stones = Check.walk("sheet 3;goer 4 0 0;stone 4;stone 0");
        Check.due("on a stone himself", stones.shortest(0, 4), 0);
        Check.due("from it", stones.shortest(0, 8), 2);
    }

    private static void shortestFar() {
        terms("at most 99.");
        Check.says(21, "SHORTEST; -2: in no so many");
        StringBuilder text = new StringBuilder("sheet 6;goer 27 0 0;join 0 1 9;join 1 2 9;join 2 3 9;join 3 0 9");
        int[] stones = {0, 2, 4, 7, 9, 10, 12, 13, 17, 20, 21, 25, 28, 29, 30, 33};
        for (int cell : stones) {
            text.append(";stone ").append(cell);
        }
        Check.due("the longest way that was found", Check.walk(text.toString()).shortest(0, 8), 88);
        Check.due("a stone", Check.walk(text.toString()).shortest(0, 0), -2);
        EdgeWalk walled = Check.walk("sheet 2;goer 0 0 0;stone 1;stone 2");
        Check.due("no way", walled.shortest(0, 3), -2);
        Check.due("to a stone", walled.shortest(0, 1), -2);
        walled.fold(0, 1);
        Check.due("in at a stone", walled.shortest(0, 1), -2);
    }

    private static void shortestRefused() {
        Check.says(21, "NONE without these (ON).");
        EdgeWalk walk = Twin.busy();
        Check.due("one who is out", walk.shortest(1, 0), -1);
        Check.due("one who is lost", walk.shortest(2, 0), -1);
        Check.beyond("goer", 0, 3, -1, g -> walk.shortest(g, 0));
        Check.beyond("cell", 0, 8, -1, c -> walk.shortest(0, c));
        Check.due("the last cell", walk.shortest(0, 8) >= 0 ? 1 : 0, 1);
        EdgeWalk six = Check.walk("sheet 6;goer 35 0 0");
        Check.beyond("cell", 0, 35, -1, c -> six.shortest(0, c));
        Check.due("no sheet", new EdgeWalk().shortest(0, 0), -1);
    }

    private static void seen() {
        terms("SEEN by a GOER in n STEPS (0 to 100): CELLS in which he is ON at the begin of any of these, "
                + "or behind the last: how many.");
        Check.due("behind none", movesIn(0).seen(0, 0), 1);
        Check.due("behind the only one", movesIn(0).seen(0, 1), 2);
        Check.due("behind 99", movesIn(99).seen(0, 99), 1);
        Check.due("behind the 100th", movesIn(99).seen(0, 100), 2);
        Check.due("beyond the 100th", movesIn(100).seen(0, 100), 1);
        Check.due("out, never in", waits(5).seen(0, 100), 1);
        EdgeWalk out = waits(99);
        out.step();
        Check.due("out now", out.seen(0, 0), 0);
        Check.due("out all the time", out.seen(0, 100), 0);
        Check.due("lost", Twin.busy().seen(2, 100), 0);
        EdgeWalk rows = Check.walk("sheet 6;goer 0 1 0", "turn 1 if faces=1 and margin=0 or faces=2 and column=5;"
                + "turn 3 if faces=3 and margin=0 or faces=2 and column=0");
        Check.due("all cells but one", rows.seen(0, 34), 35);
        Check.due("all cells", rows.seen(0, 35), 36);
        Check.due("no more than all", rows.seen(0, 100), 36);
    }

    private static void seenRefused() {
        Check.says(22, "SEEN; NONE without these.");
        EdgeWalk walk = Twin.busy();
        Check.beyond("goer", 0, 3, -1, g -> walk.seen(g, 1));
        Check.beyond("n", 0, 100, -1, n -> walk.seen(0, n));
        Check.due("no goers", Check.walk("sheet 2").seen(0, 0), -1);
        Check.due("no sheet", new EdgeWalk().seen(0, 0), -1);
    }

    private static void longest(EdgeWalk walk, int n, int who, int many) {
        Check.due("who in " + n, walk.longest(n, 0), who);
        Check.due("how many in " + n, walk.longest(n, 1), many);
    }

    private static void longest() {
        terms("LONGEST out in n STEPS (1 to 100): the GOER who is OUT (not LOST) behind most of these, "
                + "of several the least; how many.");
        longest(leavesIn(0), 1, 0, 1);
        longest(leavesIn(1), 1, 0, 0);
        longest(leavesIn(99), 99, 0, 0);
        longest(leavesIn(99), 100, 0, 1);
        longest(waits(99), 100, 0, 100);
        longest(waits(98), 100, 0, 99);
        longest(Check.walk("sheet 2;goer 0 1 0;goer 0 0 0;goer 0 0 0;stone 1"), 9, 1, 1);
        longest(Check.walk("sheet 2;goer 0 0 1;goer 0 0 2;goer 0 0 2;stone 0"), 9, 1, 3);
        longest(Check.walk("sheet 2;goer 0 0 1;goer 0 0 1;stone 0"), 9, 0, 2);
        Check.says(23, "LONGEST what 0: who (-2: there are no GOERS), 1: how many (0 likewise).");
        longest(Check.walk("sheet 2"), 1, -2, 0);
        longest(Check.walk("sheet 2"), 100, -2, 0);
        EdgeWalk lost = Check.walk("sheet 2;goer 0 0 0");
        Check.steps(lost, 2);
        longest(lost, 50, 0, 0);
    }

    private static void longestRefused() {
        Check.says(23, "NONE without these, or a SHEET.");
        EdgeWalk walk = Twin.busy();
        Check.beyond("n", 1, 100, -1, n -> walk.longest(n, 0));
        Check.beyond("n", 1, 100, -1, n -> walk.longest(n, 1));
        Check.beyond("what", 0, 1, -1, what -> walk.longest(1, what));
        Check.beyond("n without goers", 1, 100, -1, n -> Check.walk("sheet 2").longest(n, 0));
        Check.due("no sheet", new EdgeWalk().longest(1, 0), -1);
    }

    private static void bestFold(EdgeWalk walk, int n, int... want) {
        for (int what = 0; what < 4; what++) {
            Check.due("bestFold " + n + " " + what, walk.bestFold(n, what), want[what]);
        }
    }

    private static void bestStone(EdgeWalk walk, int n, int... want) {
        for (int what = 0; what < 3; what++) {
            Check.due("bestStone " + n + " " + what, walk.bestStone(n, what), want[what]);
        }
    }

    /** Goes OUT in the 39th STEP, and eats in the 40th. */
    private static EdgeWalk eatsIn40() {
        return Check.walk("sheet 2;goer 0 1 2;stone 1", "turn 3 if step = 38");
    }

    private static void bestFold() {
        terms("BEST FOLD for n STEPS (1 to 40): an EDGE and another EDGE it had best lead in at from now on, or none, "
                + "so that fewest are LOST then, of as many: that there is most FOOD then, all together "
                + "(of those not LOST)");
        bestFold(eatsIn40(), 39, 0, 2, -2, -2);
        bestFold(eatsIn40(), 40, 0, 1, -2, -2);
        bestFold(Check.walk("sheet 2;goer 0 0 5;stone 0"), 1, 0, 5, -2, -2);
        bestFold(Check.walk("sheet 3;goer 5 1 1;goer 3 3 60;stone 5;stone 3"), 4, 0, 57, 1, 0);
        bestFold(Check.walk("sheet 3;goer 3 3 60;goer 5 1 0;stone 5;stone 3"), 4, 1, 59, 3, 0);
        bestFold(Check.walk("sheet 3;goer 5 1 0;goer 3 0 60;stone 0"), 4, 1, 60, -2, -2);
        int[] middles = {1, 5, 7, 3};
        for (int k = 0; k < 16; k++) {
            int edge = k / 4;
            int to = k % 4;
            StringBuilder text = new StringBuilder("sheet 3;goer " + middles[edge] + " " + edge + " 3;join " + edge + " ");
            text.append((to + 1) % 4).append(" 1");
            for (int other = 0; other < 4; other++) {
                text.append(other == to ? "" : ";stone " + middles[other]);
            }
            bestFold(Check.walk(text.toString()), 4, 0, 1, edge, to);
        }
        bestFold(Check.walk("sheet 2;goer 0 0 1;join 0 0 9"), 4, 1, 0, -2, -2);
        Check.says(24, "BEST FOLD what 0: how many LOST, 1: how much, 2: which EDGE, 3: where (both -2: none).");
        bestFold(Check.walk("sheet 2"), 40, 0, 0, -2, -2);
        bestFold(Check.walk("sheet 2" + ";goer 0 1 60".repeat(5) + ";stone 1"), 40, 0, 300, -2, -2);
    }

    private static void bestFoldTies() {
        terms("of several none, then the least EDGE, then the least it leads in at: "
                + "how many LOST; how much; which; where.");
        bestFold(Check.walk("sheet 3;goer 5 1 1;goer 3 3 1;stone 5;stone 3"), 3, 1, 0, 1, 0);
        bestFold(Check.walk("sheet 3;goer 5 1 1;goer 3 3 1;stone 5;stone 3;stone 1"), 3, 1, 0, 1, 2);
        bestFold(Check.walk("sheet 3;goer 5 1 1;goer 3 3 1;stone 5;stone 3;stone 1;stone 7"), 3, 2, 0, -2, -2);
        bestFold(Check.walk("sheet 3;goer 3 3 2;join 3 1 0;stone 5;stone 1;stone 7"), 3, 0, 1, 3, 3);
        bestFold(Check.walk("sheet 3;goer 7 2 1;goer 5 1 1;stone 7;stone 5;stone 1"), 3, 1, 0, 1, 3);
    }

    private static void bestFoldRefused() {
        Check.says(24, "NONE without these, or a SHEET.");
        EdgeWalk walk = Twin.busy();
        Check.beyond("n", 1, 40, -1, n -> walk.bestFold(n, 0));
        Check.beyond("what", 0, 3, -1, what -> walk.bestFold(1, what));
        Check.due("no sheet", new EdgeWalk().bestFold(1, 0), -1);
    }

    private static void bestStone() {
        terms("BEST STONE for n STEPS (1 to 40): likewise the CELL in which there had best be a STONE now, "
                + "if there is none, or none, if there is one; or nothing done.");
        Check.says(25, "BEST STONE what 0: how many LOST, 1: how much, 2: the CELL (-2: nothing done).");
        bestStone(eatsIn40(), 39, 0, 2, -2);
        bestStone(eatsIn40(), 40, 0, 1, -2);
        bestStone(Check.walk("sheet 2;goer 0 0 5;stone 0"), 1, 0, 5, -2);
        bestStone(Check.walk("sheet 2;goer 0 0 5;stone 0"), 3, 0, 4, 0);
        bestStone(Check.walk("sheet 3;goer 5 1 1;goer 3 3 1;stone 5;stone 3"), 3, 1, 0, 3);
        bestStone(Check.walk("sheet 6;goer 29 2 0"), 3, 0, 0, 35);
        bestStone(Check.walk("sheet 3;goer 4 0 0;goer 4 2 0"), 3, 1, 0, 1);
        bestStone(Check.walk("sheet 3;goer 4 2 0;goer 3 1 60"), 4, 0, 59, 7);
        bestStone(Check.walk("sheet 2;goer 0 3 1;join 3 0 1"), 3, 1, 0, -2);
        bestStone(Check.walk("sheet 6;goer 0 3 0"), 2, 1, 0, -2);
        bestStone(Check.walk("sheet 2"), 40, 0, 0, -2);
    }

    private static void bestStoneRefused() {
        Check.says(25, "NONE without these, or a SHEET.");
        EdgeWalk walk = Twin.busy();
        Check.beyond("n", 1, 40, -1, n -> walk.bestStone(n, 0));
        Check.beyond("what", 0, 2, -1, what -> walk.bestStone(1, what));
        Check.due("no sheet", new EdgeWalk().bestStone(1, 0), -1);
    }

    private static void rests(EdgeWalk walk, int n, int... want) {
        for (int what = 0; what < 3; what++) {
            Check.due("rests " + n + " " + what, walk.rests(0, 1, n, what), want[what]);
        }
    }

    private static void rests() {
        terms("RESTS of two GOERS, both ON, for n STEPS (1 to 20): each FACES 0, 1, 2 or 3 now, all else as it is: "
                + "each has how many of these STEPS he is ON behind: twos of which neither would have more by another "
                + "one: how many; the first (by the first one, then the second one).");
        String corners = "sheet 2;goer 0 0 9;goer 3 2 9;stone 1;stone 2";
        String late = "turn 2 if step = 19 and goer = 0 and faces = 1";
        rests(Check.walk(corners), 1, 4, 1, 0);
        rests(Check.walk(corners, late), 19, 4, 1, 0);
        rests(Check.walk(corners, late), 20, 2, 2, 0);
        for (int k = 0; k < 16; k++) {
            String alone = "turn 5-faces if goer=0 and faces=" + k / 4 + " or goer=1 and faces=" + k % 4 + ";turn 4-faces";
            rests(Check.walk("sheet 2;goer 0 0 9;goer 0 0 9", alone), 1, 1, k / 4, k % 4);
        }
        Check.due("turned about", Check.walk(corners).rests(1, 0, 1, 1), 0);
        Check.due("turned about", Check.walk(corners).rests(1, 0, 1, 2), 1);
        rests(Check.walk("sheet 3;goer 4 0 0;goer 4 3 0"), 1, 16, 0, 0);
        Check.says(26, "RESTS what 0: how many, 1, 2: how the first two FACE (-2: there is none).");
        String chase = "turn here*2 if goer=0;turn 1-here if goer=1";
        rests(Check.walk("sheet 2;goer 0 0 2;goer 0 0 1;stone 1", chase), 2, 0, -2, -2);
    }

    private static int[] onByHand(String sheet, String rule, int two, int n) {
        EdgeWalk walk = Check.walk(sheet, rule);
        walk.way(0, two / 4);
        walk.way(1, two % 4);
        int[] on = new int[2];
        for (int k = 0; k < n; k++) {
            int bits = walk.step();
            on[0] += bits & 1;
            on[1] += bits >> 1 & 1;
        }
        return on;
    }

    /** How many and the first, as 100 * how many + the first; each two is walked by hand. */
    private static int restsByHand(String sheet, String rule, int n) {
        int[][] on = new int[16][];
        for (int two = 0; two < 16; two++) {
            on[two] = onByHand(sheet, rule, two, n);
        }
        int many = 0;
        int first = -1;
        for (int two = 0; two < 16; two++) {
            boolean rest = true;
            for (int faces = 0; faces < 4; faces++) {
                rest &= on[faces * 4 + two % 4][0] <= on[two][0] && on[two / 4 * 4 + faces][1] <= on[two][1];
            }
            many += rest ? 1 : 0;
            first = rest && first < 0 ? two : first;
        }
        return 100 * many + first;
    }

    /** What one had best do hangs on what the other does: they turn where they meet. */
    private static void restsOfTwo() {
        terms("twos of which neither would have more by another one");
        String[] sheets = {"sheet 2;goer 0 0 2;goer 0 0 1;stone 1", "sheet 2;goer 0 0 9;goer 1 0 3;stone 2",
            "sheet 3;goer 4 0 3;goer 4 0 3", "sheet 3;goer 4 0 3;goer 3 0 3;stone 7", "sheet 3;goer 1 0 9;goer 5 0 9;stone 3"};
        String[] rules = {"turn here*2 if goer=0;turn 1-here if goer=1", "turn here", "turn 2 if here=1;turn 1 if stone=1",
            "turn goer+here if step>0", "turn 1 if margin=0 and here=0;turn 3 if here>0"};
        for (String sheet : sheets) {
            for (String rule : rules) {
                for (int n = 1; n <= 20; n = n < 6 ? n + 1 : n + 7) {
                    EdgeWalk walk = Check.walk(sheet, rule);
                    int many = walk.rests(0, 1, n, 0);
                    int first = many == 0 ? -1 : walk.rests(0, 1, n, 1) * 4 + walk.rests(0, 1, n, 2);
                    Check.due("rests " + n + " of " + sheet + ", " + rule, 100 * many + first, restsByHand(sheet, rule, n));
                }
            }
        }
    }

    private static void restsRefused() {
        Check.says(26, "NONE without these (unlike, ON).");
        EdgeWalk walk = Check.walk("sheet 2;goer 0 0 9;goer 3 0 9;goer 3 2 0;goer 3 1 9");
        Check.due("alike", walk.rests(0, 0, 1, 0), -1);
        Check.beyond("one", 0, 3, -1, g -> walk.rests(g, 0, 1, 0));
        Check.beyond("other", 0, 3, -1, g -> walk.rests(0, g, 1, 0));
        Check.beyond("n", 1, 20, -1, n -> walk.rests(0, 1, n, 0));
        Check.beyond("what", 0, 2, -1, what -> walk.rests(0, 1, 1, what));
        EdgeWalk out = Twin.busy();
        for (int g = 1; g < 4; g++) {
            Check.due("one is not on", out.rests(0, g, 1, 0), -1);
            Check.due("the first is not on", out.rests(g, 0, 1, 0), -1);
        }
        Check.due("no sheet", new EdgeWalk().rests(0, 1, 1, 0), -1);
    }

    private static void ring(EdgeWalk walk, int step, int later) {
        Check.due("ring", walk.ring(0), step);
        Check.due("how much later", walk.ring(1), later);
    }

    private static void ring() {
        terms("RING: the first STEP, this one the first, of 60, at whose begin all GOERS are where they are at the begin "
                + "of a later one, and FACE so");
        ring(Check.walk("sheet 2;goer 0 1 0;stone 1"), 0, 1);
        ring(Check.walk("sheet 2"), 0, 1);
        EdgeWalk turning = Check.walk("sheet 2;goer 0 1 0;stone 1;stone 2", "turn 1 if faces = 1;turn 3 if faces = 2");
        ring(turning, 0, 2);
        EdgeWalk later = Check.walk("sheet 3;goer 3 1 60;stone 5");
        ring(later, 1, 1);
        later.step();
        ring(later, 1, 1);
        later.step();
        ring(later, 2, 1);
        terms("60 STEPS from now at most; how much later the first such is.");
        ring(Check.walk("sheet 2;goer 0 0 60;goer 0 1 60;join 0 0 6;join 1 1 4"), 0, 60);
        ring(Check.walk("sheet 2;goer 0 0 60;goer 0 1 60;join 0 0 3;join 1 1 1"), -2, -2);
        ring(Check.walk("sheet 2;goer 0 0 16;goer 0 1 36;join 1 1 5"), 59, 1);
        ring(Check.walk("sheet 2;goer 0 0 16;goer 0 1 37;join 1 1 5"), -2, -2);
        EdgeWalk last = Check.walk("sheet 2;goer 0 0 16;goer 0 1 37;join 1 1 5");
        last.step();
        ring(last, 60, 1);
    }

    private static void ringOut() {
        terms("(of those OUT: as many DAYS left, the same EDGE and PLACE too)");
        ring(Check.walk("sheet 2;goer 0 0 9;join 0 0 9"), 11, 1);
        ring(Check.walk("sheet 2;goer 0 0 60;stone 0"), 1, 1);
        EdgeWalk places = Check.walk("sheet 2;goer 0 0 60", "turn 3 if cell = 0 and faces = 2;"
                + "turn 3 if cell = 1 and faces = 1;turn 1 if cell = 1 and faces = 2;turn 1 if cell = 0 and faces = 3");
        ring(places, 1, 6);
        EdgeWalk days = Check.walk("sheet 2;goer 0 0 60;join 0 0 9", "turn 3 if cell = 0 and faces = 2;"
                + "turn 3 if cell = 1 and faces = 1;turn 1 if cell = 1 and faces = 2;turn 1 if cell = 0 and faces = 3");
        ring(days, 1, 24);
        EdgeWalk lost = Check.walk("sheet 2;goer 0 0 1;goer 0 1 0;stone 0;stone 1");
        ring(lost, 1, 1);
        ring(Check.walk("sheet 2;goer 0 0 0"), 2, 1);
    }

    private static void ringRefused() {
        Check.says(27, "RING what 0: the STEP, 1: how much later; -2: there is none. NONE for others, or without a SHEET.");
        EdgeWalk walk = Twin.busy();
        Check.beyond("what", 0, 1, -1, walk::ring);
        Check.due("no sheet", new EdgeWalk().ring(0), -1);
        Check.due("no sheet", new EdgeWalk().ring(1), -1);
    }

    private static void bread(EdgeWalk walk, int much, int... want) {
        for (int g = 0; g < want.length; g++) {
            Check.due("bread " + much + " of " + g, walk.bread(much, g), want[g]);
        }
    }

    private static void bread() {
        terms("BREAD (0 to 9999) among GOERS who are not LOST by how much less than 99 FOOD each has: each the part "
                + "downwards; what is left, one each, to those whose part lost most by that, of several the least first "
                + "(nothing, if nobody is short).");
        EdgeWalk walk = Check.walk("sheet 2;goer 0 1 9;goer 0 1 39;goer 0 1 60;stone 1");
        bread(walk, 0, 0, 0, 0);
        bread(walk, 1, 1, 0, 0);
        bread(walk, 2, 1, 1, 0);
        bread(walk, 3, 1, 1, 1);
        bread(walk, 9999, 4762, 3174, 2063);
        EdgeWalk alike = Check.walk("sheet 2" + ";goer 0 1 0".repeat(5) + ";stone 1");
        bread(alike, 4, 1, 1, 1, 1, 0);
        bread(alike, 5, 1, 1, 1, 1, 1);
        bread(alike, 6, 2, 1, 1, 1, 1);
        bread(alike, 9999, 2000, 2000, 2000, 2000, 1999);
        EdgeWalk full = Check.walk("sheet 2;goer 0 1 60;goer 0 1 60;stone 1");
        full.give(0, 20);
        full.give(0, 19);
        bread(full, 9999, 0, 9999);
        full.give(1, 20);
        full.give(1, 18);
        bread(full, 9999, 0, 9999);
        full.give(1, 1);
        bread(full, 9999, 0, 0);
        Check.says(28, "BREAD of a GOER (0, if he is LOST)");
        EdgeWalk busy = Twin.busy();
        bread(busy, 219, 89, 91, 0, 39);
        bread(busy, 220, 89, 92, 0, 39);
        EdgeWalk lost = Check.walk("sheet 2;goer 0 0 0");
        Check.steps(lost, 2);
        bread(lost, 9999, 0);
    }

    private static void breadRefused() {
        Check.says(28, "NONE without these.");
        EdgeWalk walk = Twin.busy();
        Check.beyond("much", 0, 9999, -1, much -> walk.bread(much, 0));
        Check.beyond("goer", 0, 3, -1, g -> walk.bread(1, g));
        Check.due("no goers", Check.walk("sheet 2").bread(1, 0), -1);
        Check.due("no sheet", new EdgeWalk().bread(1, 0), -1);
    }
}
