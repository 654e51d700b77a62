/** Each sentence of promises 29 to 37, and of the Terms behind them, that names a bound or a refusal. */
public final class GuessBoundsTest {
    private static final int[] MIDDLES = {1, 5, 7, 3};

    private static long x;

    public static void main(String[] args) {
        note();
        noteNone();
        noteRefused();
        noteFull();
        ruled();
        ruledAsTold();
        ruledAtTheBounds();
        ruledRefused();
        look();
        lookTies();
        lookNone();
        lookRefused();
        folds();
        foldsOne();
        foldsAsTold();
        foldsRefused();
        seed();
        seedRefused();
        drawsBelow();
        drawsRound();
        gustsWithoutGoers();
        gustsOnlyOn();
        gustsAtTheBounds();
        gustsCounted();
        gustsNothingStays();
        gustsRefused();
        count();
        countRefused();
        image();
        imageRefused();
        back();
        backToTheText();
        backLeaves();
        backRefused();
        Check.finish();
    }

    private static void terms(String quote) {
        Check.says("Terms", quote);
    }

    /** By each RULE he goes from CELL 3 to CELL 4 in a STEP of its own, and stays there before a STONE. */
    private static EdgeWalk six(int... steps) {
        String[] rules = new String[steps.length];
        for (int k = 0; k < steps.length; k++) {
            rules[k] = "turn 1 if step = " + steps[k];
        }
        return Check.walk("sheet 3;goer 3 0 60;goer 0 1 60;stone 0;stone 5", rules);
    }

    private static void note() {
        terms("NOTES 0 to 9, told: at the begin of the n-th STEP of all (0 to 60) a GOER was in a CELL, "
                + "or not ON (NONE).");
        Check.says(29, "A NOTE (n NONE: there are none then, 0): how many");
        EdgeWalk walk = Check.walk("sheet 3;goer 4 0 9;goer 0 0 9");
        Check.due("the least of all", walk.note(0, 0, 0), 1);
        Check.due("the most of all", walk.note(60, 1, 8), 2);
        Check.due("not on", walk.note(60, 0, -1), 3);
        Check.due("the same again", walk.note(60, 0, -1), 4);
        Check.due("counted", walk.count(9), 4);
        Check.due("no act", walk.count(10), 0);
        EdgeWalk large = Check.walk("sheet 6" + ";goer 0 0 0".repeat(5));
        Check.due("the last goer, the last cell", large.note(60, 4, 35), 1);
    }

    private static void noteNone() {
        Check.says(29, "(n NONE: there are none then, 0)");
        EdgeWalk walk = Twin.busy();
        Check.due("none", walk.note(-1, 0, 0), 0);
        Check.due("counted", walk.count(9), 0);
        Check.due("without notes all are so", walk.ruled(0), 4);
        Check.due("and all foldings", walk.folds(-1), 256);
        Check.due("none again", walk.note(-1, -9, 99), 0);
        Check.due("the first anew", walk.note(0, 0, 8), 1);
        Check.due("without a sheet", new EdgeWalk().note(-1, 0, 0), 0);
        for (int k = 0; k < 9; k++) {
            walk.note(0, 0, 8);
        }
        Check.due("ten", walk.count(9), 10);
        Check.due("none of ten", walk.note(-1, 0, 0), 0);
        Check.due("acts stay", walk.count(10), 5);
    }

    private static void noteRefused() {
        Check.says(29, "-2, and nothing happens, without these (cell NONE: not ON)");
        Twin.refused("n 61", -2, walk -> walk.note(61, 0, 0));
        Twin.refused("n -2", -2, walk -> walk.note(-2, 0, 0));
        Twin.refused("n far", -2, walk -> walk.note(Integer.MAX_VALUE, 0, 0));
        Twin.refused("n far below", -2, walk -> walk.note(Integer.MIN_VALUE, 0, 0));
        Twin.refused("goer 4 of 4", -2, walk -> walk.note(0, 4, 0));
        Twin.refused("goer -1", -2, walk -> walk.note(0, -1, 0));
        Twin.refused("goer far", -2, walk -> walk.note(0, Integer.MAX_VALUE, 0));
        Twin.refused("cell 9 of 9", -2, walk -> walk.note(0, 0, 9));
        Twin.refused("cell -2", -2, walk -> walk.note(0, 0, -2));
        Twin.refused("cell far", -2, walk -> walk.note(0, 0, Integer.MIN_VALUE));
        Twin.refused("without a sheet", -2, EdgeWalk::new, walk -> walk.note(0, 0, 0));
        Twin.refused("without goers", -2, () -> Check.walk("sheet 2"), walk -> walk.note(0, 0, -1));
    }

    private static EdgeWalk noted(int many) {
        EdgeWalk walk = Twin.busy();
        for (int k = 2; k < many; k++) {
            Check.due("note", walk.note(0, 0, 8), k + 1);
        }
        return walk;
    }

    private static void noteFull() {
        Check.says(29, "-2, and nothing happens, without these (cell NONE: not ON), or if there are 10.");
        Check.due("a tenth", noted(9).note(1, 3, 1), 10);
        Twin.refused("an eleventh", -2, () -> noted(10), walk -> walk.note(1, 3, 1));
        Twin.refused("an eleventh that is not so", -2, () -> noted(10), walk -> walk.note(0, 0, 0));
        EdgeWalk walk = noted(9);
        Check.due("nine are so", walk.ruled(0), 3);
        walk.note(0, 0, 7);
        Check.due("the tenth counts, too", walk.ruled(0), 0);
    }

    private static void ruled(EdgeWalk walk, int many, int first) {
        Check.due("ruled, how many", walk.ruled(0), many);
        Check.due("ruled, the first", walk.ruled(1), first);
    }

    private static void ruled() {
        terms("RULED: which of the RULES, and of none, so that from the begin on, all as the text told it, "
                + "all NOTES are so: how many; the first (none ahead of 0, told as NONE).");
        ruled(Check.walk("sheet 2"), 1, -1);
        ruled(six(9), 2, -1);
        ruled(six(1, 2, 3, 4, 5, 6), 7, -1);
        EdgeWalk walk = six(1, 2, 3, 4, 5, 6);
        for (int k = 1; k <= 6; k++) {
            walk.note(-1, 0, 0);
            walk.note(k + 1, 0, 4);
            ruled(walk, k, 0);
            walk.note(k, 0, 3);
            ruled(walk, 1, k - 1);
        }
        walk.note(0, 0, 5);
        Check.says(30, "RULED what 0: how many, 1: the first (NONE: none; -2: there is none such).");
        ruled(walk, 0, -2);
        walk.note(-1, 0, 0);
        walk.note(8, 0, 3);
        ruled(walk, 1, -1);
    }

    private static void ruledAsTold() {
        terms("from the begin on, all as the text told it");
        EdgeWalk walk = six(1, 2);
        Check.steps(walk, 3);
        walk.give(0, 5);
        walk.stone(5);
        walk.stone(4);
        walk.fold(1, 0);
        walk.way(0, 2);
        walk.force(1);
        walk.note(2, 0, 4);
        ruled(walk, 1, 0);
        walk.note(4, 0, 4);
        ruled(walk, 1, 0);
        walk.note(3, 1, 7);
        ruled(walk, 1, 0);
        EdgeWalk out = Check.walk("sheet 2;goer 0 0 0", "turn 1;turn 1 if 1=1");
        out.note(1, 0, -1);
        out.note(2, 0, -1);
        out.note(60, 0, -1);
        ruled(out, 1, -1);
    }

    private static void ruledAtTheBounds() {
        terms("at the begin of the n-th STEP of all (0 to 60)");
        EdgeWalk walk = six(58, 59, 60);
        walk.note(60, 0, 4);
        ruled(walk, 2, 0);
        walk.note(59, 0, 3);
        ruled(walk, 1, 1);
        walk.note(-1, 0, 0);
        walk.note(60, 0, 3);
        ruled(walk, 2, -1);
        walk.note(-1, 0, 0);
        walk.note(0, 0, 3);
        ruled(walk, 4, -1);
        walk.note(0, 1, 1);
        ruled(walk, 0, -2);
    }

    private static void ruledRefused() {
        Check.says(30, "-3 for others, or without a SHEET.");
        EdgeWalk walk = Twin.busy();
        Check.beyond("what", 0, 1, -3, walk::ruled);
        Check.due("no sheet", new EdgeWalk().ruled(0), -3);
        Check.due("no sheet", new EdgeWalk().ruled(1), -3);
    }

    private static void look(EdgeWalk walk, int n, int who, int many) {
        Check.due("look " + n + ", who", walk.look(n, 0), who);
        Check.due("look " + n + ", how many", walk.look(n, 1), many);
    }

    private static void look() {
        terms("LOOK at the begin of the n-th STEP: the GOER by whose CELL, or none, these part best: "
                + "the most alike are fewest, of several the least; how many.");
        EdgeWalk walk = six(58, 59, 60);
        look(walk, 0, 0, 4);
        look(walk, 58, 0, 4);
        look(walk, 59, 0, 3);
        look(walk, 60, 0, 2);
        EdgeWalk all = six(0, 0, 0, 0, 0, 0);
        look(all, 0, 0, 7);
        look(all, 1, 0, 6);
        all.note(1, 0, 3);
        look(all, 1, 0, 1);
        EdgeWalk noted = six(1, 2, 6, 7);
        noted.note(5, 0, 3);
        look(noted, 6, 0, 3);
        look(noted, 7, 0, 2);
        EdgeWalk alone = Check.walk("sheet 2;goer 0 0 0");
        look(alone, 0, 0, 1);
        look(alone, 60, 0, 1);
    }

    private static void lookTies() {
        terms("of several the least; how many.");
        EdgeWalk walk = Check.walk("sheet 3;goer 4 0 9;goer 4 0 9;goer 4 0 9", "turn goer", "turn goer + goer / 2");
        look(walk, 0, 0, 3);
        look(walk, 1, 2, 1);
        EdgeWalk same = Check.walk("sheet 3;goer 4 0 9;goer 4 0 9;goer 4 0 9", "turn goer", "turn goer");
        look(same, 1, 1, 2);
        EdgeWalk last = Check.walk("sheet 3" + ";goer 4 0 9".repeat(5), "turn 1 if goer = 4");
        look(last, 1, 4, 1);
        EdgeWalk five = Check.walk("sheet 3" + ";goer 4 0 9".repeat(5), "turn 0");
        look(five, 1, 0, 2);
        terms("by whose CELL, or none, these part best");
        EdgeWalk out = Check.walk("sheet 2;goer 0 0 0;goer 0 0 9", "turn 3", "turn 1 if goer = 1;turn 3");
        look(out, 1, 1, 2);
        look(out, 2, 1, 2);
    }

    private static void lookNone() {
        Check.says(31, "LOOK (n 0 to 60) what 0: the GOER, 1: how many; -2: no RULE is so, or there are no GOERS.");
        EdgeWalk walk = six(1, 2);
        walk.note(0, 0, 8);
        look(walk, 0, -2, -2);
        look(walk, 60, -2, -2);
        EdgeWalk nobody = Check.walk("sheet 2", "turn 1");
        look(nobody, 0, -2, -2);
        look(nobody, 60, -2, -2);
    }

    private static void lookRefused() {
        Check.says(31, "NONE without these, or a SHEET.");
        EdgeWalk walk = Twin.busy();
        Check.beyond("n", 0, 60, -1, n -> walk.look(n, 0));
        Check.beyond("n", 0, 60, -1, n -> walk.look(n, 1));
        Check.beyond("what", 0, 1, -1, what -> walk.look(0, what));
        EdgeWalk nobody = Check.walk("sheet 2");
        Check.beyond("n without goers", 0, 60, -1, n -> nobody.look(n, 0));
        Check.beyond("what without goers", 0, 1, -1, what -> nobody.look(0, what));
        Check.due("no sheet", new EdgeWalk().look(0, 0), -1);
    }

    private static void folds(EdgeWalk walk, int... want) {
        for (int what = -1; what < 4; what++) {
            Check.due("folds " + what, walk.folds(what), want[what + 1]);
        }
    }

    /** One GOER goes OUT over each EDGE, at PLACE 1, in the first STEP. */
    private static EdgeWalk fourOut(int food) {
        return Check.walk("sheet 3;goer 1 0 " + food + ";goer 5 1 " + food + ";goer 7 2 " + food + ";goer 3 3 " + food);
    }

    private static void folds() {
        terms("FOLDS: of all ways in which EDGES 0 to 3 lead in at any EDGES (DAYS as told) those by which, "
                + "from the begin on, by the RULE IN FORCE, all else as the text told it, all NOTES are so: how many; "
                + "where an EDGE leads in in the first (of EDGE 0 first, least first).");
        folds(Check.walk("sheet 2"), 256, 0, 0, 0, 0);
        for (int edge = 0; edge < 4; edge++) {
            EdgeWalk walk = fourOut(9);
            walk.note(2, edge, MIDDLES[3]);
            int[] want = {64, 0, 0, 0, 0};
            want[edge + 1] = 3;
            folds(walk, want);
        }
        EdgeWalk forced = Check.walk("sheet 3;goer 4 0 9", "turn 1");
        forced.note(1, 0, 5);
        folds(forced, 256, 0, 0, 0, 0);
        forced.force(-1);
        folds(forced, 0, -2, -2, -2, -2);
        Check.says(32, "FOLDS what NONE: how many, 0 to 3: where that EDGE leads in in the first (-2: there is none such).");
        EdgeWalk none = fourOut(0);
        none.note(2, 3, 3);
        folds(none, 0, -2, -2, -2, -2);
    }

    /** Each folding of all is the only one, if it is noted where each GOER came in. */
    private static void foldsOne() {
        terms("of all ways in which EDGES 0 to 3 lead in at any EDGES");
        EdgeWalk walk = fourOut(9);
        for (int k = 0; k < 256; k++) {
            int[] leads = {k / 64, k / 16 % 4, k / 4 % 4, k % 4};
            walk.note(-1, 0, 0);
            for (int edge = 0; edge < 4; edge++) {
                walk.note(2, edge, MIDDLES[leads[edge]]);
            }
            folds(walk, 1, leads[0], leads[1], leads[2], leads[3]);
            walk.note(1, 0, 1);
            folds(walk, 0, -2, -2, -2, -2);
        }
    }

    private static void foldsAsTold() {
        terms("(DAYS as told)");
        EdgeWalk walk = Check.walk("sheet 3;goer 1 0 9;join 0 1 4;join 2 2 9");
        walk.fold(0, 2);
        walk.stone(1);
        walk.give(0, 1);
        walk.step();
        walk.note(5, 0, -1);
        folds(walk, 256, 0, 0, 0, 0);
        walk.note(6, 0, 1);
        folds(walk, 64, 0, 0, 0, 0);
        walk.note(-1, 0, 0);
        walk.note(6, 0, 5);
        folds(walk, 64, 1, 0, 0, 0);
        EdgeWalk last = Check.walk("sheet 3;goer 7 1 60;stone 8", "turn 1 if step = 58");
        last.note(60, 0, 3);
        folds(last, 64, 0, 0, 3, 0);
        last = Check.walk("sheet 3;goer 7 1 60;stone 8", "turn 1 if step = 59");
        last.note(60, 0, -1);
        folds(last, 256, 0, 0, 0, 0);
        last.note(60, 0, 3);
        folds(last, 0, -2, -2, -2, -2);
    }

    private static void foldsRefused() {
        Check.says(32, "-3 for others, or without a SHEET.");
        EdgeWalk walk = Twin.busy();
        Check.beyond("what", -1, 3, -3, walk::folds);
        for (int what = -1; what < 4; what++) {
            Check.due("no sheet", new EdgeWalk().folds(what), -3);
        }
    }

    private static void seed() {
        terms("DRAWS: x (0 to 2147483647; 0 at first)");
        Check.says(33, "x becomes a number: what it was");
        EdgeWalk walk = new EdgeWalk();
        int was = 0;
        for (int next : new int[] {0, 1, 2147483647, 2147483646, 0, 65536}) {
            Check.due("seed " + next, walk.seed(next), was);
            Check.due("x", walk.count(11), next);
            was = next;
        }
        Check.due("no act", walk.count(10), 0);
    }

    private static void seedRefused() {
        Check.says(33, "NONE, and nothing happens, below 0.");
        Twin.refused("-1", -1, walk -> walk.seed(-1));
        Twin.refused("far below", -1, walk -> walk.seed(Integer.MIN_VALUE));
        Twin.refused("without a sheet", -1, EdgeWalk::new, walk -> walk.seed(-2147483647));
    }

    private static int draw() {
        x = (x * 1103515245L + 12345L) % 2147483648L;
        return (int) (x / 65536L);
    }

    /** A number whose first DRAW leaves this rest by 100, and whose third turns to FACES 1. */
    private static int seedOf(int rest) {
        for (int seed = 0; seed < 1000000; seed++) {
            x = seed * 7919L % 2147483648L;
            int from = (int) x;
            if (draw() % 100 == rest && draw() >= 0 && draw() % 4 == 1) {
                return from;
            }
        }
        throw new IllegalStateException("no seed for " + rest);
    }

    private static void drawsBelow() {
        terms("ahead of each a DRAW mod 100: is it below p (0 to 100)");
        for (int rest : new int[] {0, 1, 49, 50, 98, 99}) {
            EdgeWalk walk = Check.walk("sheet 2;goer 3 0 9");
            walk.seed(seedOf(rest));
            Check.due("a draw of " + rest + ", p as much", walk.gusts(1, 1, rest, 0), 1);
            Check.due("a draw of " + rest + ", p one more", walk.gusts(1, 1, rest + 1, 0), 0);
            Check.due("p 0", walk.gusts(1, 1, 0, 0), 1);
            Check.due("p 100", walk.gusts(1, 1, 100, 0), 0);
        }
    }

    private static void drawsRound() {
        terms("becomes x * 1103515245 + 12345, of 2147483648 the rest; a DRAW is x / 65536.");
        String sheet = "sheet 3;goer 4 0 30;goer 0 1 30;goer 8 2 9;join 0 1 1;join 2 0 2;stone 5";
        for (int seed : new int[] {0, 1, 65535, 65536, 1103515245, 2147483646, 2147483647}) {
            EdgeWalk walk = Check.walk(sheet, "turn 1 if stone = 1");
            walk.seed(seed);
            x = seed;
            int on = 0;
            int food = 0;
            for (int m = 1; m <= 10; m++) {
                EdgeWalk hand = Check.walk(sheet, "turn 1 if stone = 1");
                for (int k = 0; k < 12; k++) {
                    if (draw() % 100 < 60) {
                        int who = draw() % 3;
                        hand.way(who, draw() % 4);
                    }
                    hand.step();
                }
                on += Integer.bitCount(hand.count(5));
                food += hand.count(7);
                Check.due("on, " + m + " times from " + seed, walk.gusts(m, 12, 60, 0), on);
                Check.due("food, " + m + " times from " + seed, walk.gusts(m, 12, 60, 1), food);
            }
        }
    }

    private static void gustsWithoutGoers() {
        terms("and are there GOERS, a DRAW mod how many, then a DRAW mod 4");
        EdgeWalk nobody = Check.walk("sheet 2");
        for (int p = 0; p <= 100; p += 50) {
            Check.due("nobody is on", nobody.gusts(10, 60, p, 0), 0);
            Check.due("no food", nobody.gusts(10, 60, p, 1), 0);
        }
    }

    /** However he were turned in the white, a STONE would keep him OUT. */
    private static void gustsOnlyOn() {
        terms("if that one is ON, he FACES so");
        EdgeWalk walk = Check.walk("sheet 2;goer 0 0 60;join 0 1 9;join 1 2 0;join 3 2 0;stone 2");
        walk.step();
        for (int seed = 0; seed < 50; seed++) {
            walk.seed(seed * 1000003);
            Check.due("out", walk.gusts(10, 9, 100, 0), 0);
            Check.due("in by his own edge", walk.gusts(10, 10, 100, 0), 10);
            Check.due("food", walk.gusts(10, 10, 100, 1), 500);
        }
        EdgeWalk lost = Check.walk("sheet 2;goer 0 0 0");
        Check.steps(lost, 2);
        Check.due("one who is lost", lost.gusts(10, 60, 100, 0), 0);
    }

    private static void gustsAtTheBounds() {
        terms("GUSTS m times (1 to 10) n STEPS (1 to 60) from now on");
        EdgeWalk walk = Check.walk("sheet 3;goer 5 0 9;stone 2", "turn 1 if step = 59");
        Check.due("behind 59", walk.gusts(1, 59, 0, 0), 1);
        Check.due("behind 60", walk.gusts(1, 60, 0, 0), 0);
        Check.due("ten times 59", walk.gusts(10, 59, 0, 0), 10);
        Check.due("ten times 60", walk.gusts(10, 60, 0, 0), 0);
        Check.due("food", walk.gusts(10, 60, 0, 1), 90);
        EdgeWalk first = Check.walk("sheet 2;goer 1 1 3;goer 0 1 4;stone 3");
        first.stone(1);
        Check.due("behind 1", first.gusts(1, 1, 0, 0), 1);
        Check.due("behind 1, food", first.gusts(1, 1, 0, 1), 7);
        first.step();
        Check.due("from now on", first.gusts(1, 1, 0, 1), 6);
        first.step();
        Check.due("from now on", first.gusts(1, 3, 0, 1), 4);
        EdgeWalk most = Check.walk("sheet 2" + ";goer 0 1 60".repeat(5) + ";stone 1");
        Check.due("the most on", most.gusts(10, 60, 0, 0), 50);
        Check.due("the most food", most.gusts(10, 60, 0, 1), 3000);
    }

    private static void gustsCounted() {
        terms("how many are ON at the end; FOOD of all who are not LOST then, all together");
        EdgeWalk walk = Check.walk("sheet 3;goer 4 0 5;goer 1 0 7;goer 1 0 0;goer 4 1 60");
        int[] on = {2, 1};
        int[] food = {72, 71};
        for (int n = 1; n <= 2; n++) {
            EdgeWalk hand = Check.walk("sheet 3;goer 4 0 5;goer 1 0 7;goer 1 0 0;goer 4 1 60");
            Check.steps(hand, n);
            Check.due("on behind " + n, walk.gusts(1, n, 0, 0), on[n - 1]);
            Check.due("on by hand", Integer.bitCount(hand.count(5)), on[n - 1]);
            Check.due("food behind " + n, walk.gusts(1, n, 0, 1), food[n - 1]);
            Check.due("food by hand", hand.count(7), food[n - 1]);
        }
    }

    private static void gustsNothingStays() {
        terms("(nothing stays; x as it was).");
        EdgeWalk walk = Twin.busy();
        int on = walk.gusts(10, 60, 100, 0);
        Check.due("the same again", walk.gusts(10, 60, 100, 0), on);
        Check.due("x", walk.count(11), 77);
        Twin.same("gusts", Twin.busy(), walk);
    }

    private static void gustsRefused() {
        Check.says(34, "GUSTS what 0: how many ON, 1: FOOD. NONE without these, or a SHEET.");
        EdgeWalk walk = Twin.busy();
        Check.beyond("m", 1, 10, -1, m -> walk.gusts(m, 1, 0, 0));
        Check.beyond("n", 1, 60, -1, n -> walk.gusts(1, n, 0, 0));
        Check.beyond("p", 0, 100, -1, p -> walk.gusts(1, 1, p, 0));
        Check.beyond("what", 0, 1, -1, what -> walk.gusts(1, 1, 0, what));
        Check.due("no sheet", new EdgeWalk().gusts(1, 1, 0, 0), -1);
        Check.due("no sheet", new EdgeWalk().gusts(10, 60, 100, 1), -1);
    }

    private static void counts(EdgeWalk walk, int... want) {
        for (int what = 0; what < want.length; what++) {
            Check.due("count " + what, walk.count(what), want[what]);
        }
    }

    private static void count() {
        Check.says(35, "What 0: SIDE, 1: GOERS, 2: RULES, 3: the RULE IN FORCE (NONE), 4: STEP, 5: GOERS who are ON, "
                + "as bits, 6: who are LOST, as bits, 7: FOOD of those not LOST, 8: STONES, how many, 9: NOTES, "
                + "10: ACTS that can be UNDONE, 11: x, 12: bytes of the TAPE.");
        counts(new EdgeWalk(), 0, 0, 0, -1, 0, 0, 0, 0, 0, 0, 0, 0, 0, -1);
        counts(Twin.busy(), 3, 4, 3, 0, 2, 1, 4, 78, 2, 2, 5, 77, 26, -1);
        EdgeWalk most = Check.walk("sheet 6" + ";goer 0 1 60".repeat(5), "turn 0", "turn 0", "turn 0", "turn 0",
                "turn 0", "turn 0");
        most.force(5);
        most.seed(2147483647);
        for (int cell = 0; cell < 36; cell++) {
            most.stone(cell);
        }
        for (int k = 0; k < 10; k++) {
            most.give(k % 5, 20);
            most.note(60, 4, 35);
            most.feed(0, 0, 0, 0, 0);
            most.feed(0, 0, 0, 0, 0);
        }
        counts(most, 6, 5, 6, 5, 0, 31, 0, 495, 36, 10, 20, 2147483647, 400, -1);
        EdgeWalk lost = Check.walk("sheet 2" + ";goer 0 0 0".repeat(5));
        Check.steps(lost, 2);
        counts(lost, 2, 5, 0, -1, 2, 0, 31, 0, 0, 0, 2, 0, 0, -1);
    }

    private static void countRefused() {
        Check.says(35, "NONE for others.");
        EdgeWalk walk = Twin.busy();
        Check.beyond("what", 0, 12, -1, walk::count);
        Check.beyond("what without a sheet", 0, 12, -1, new EdgeWalk()::count);
    }

    private static void image() {
        terms("IMAGES 0 to 3: all but the TAPE and the RULES, as it is (the RULE IN FORCE, too)");
        Check.says(36, "An IMAGE is made: STEP");
        EdgeWalk walk = Twin.busy();
        for (int k = 0; k < 4; k++) {
            Check.due("image " + k, walk.image(k), 2 + k);
            walk.step();
        }
        Check.due("no act", walk.count(10), 9);
        for (int k = 3; k >= 0; k--) {
            Check.due("back " + k, walk.back(k), 2 + k);
        }
        EdgeWalk made = Twin.busy();
        made.image(1);
        made.back(1);
        EdgeWalk undone = Twin.busy();
        undone.image(1);
        undone.sheet();
        undone.force(2);
        undone.seed(1);
        undone.note(0, 0, 0);
        undone.step();
        undone.back(1);
        Check.tape(undone, "sheet 2;goer 3 1 5;stone 0");
        Twin.same("gone back to", made, undone);
        Check.due("without a sheet", new EdgeWalk().image(3), 0);
    }

    private static void imageRefused() {
        Check.says(36, "NONE without it.");
        for (int k : new int[] {-1, 4, 1000, Integer.MIN_VALUE, Integer.MAX_VALUE}) {
            Twin.refused("image " + k, -1, walk -> walk.image(k));
            Twin.refused("image " + k + " without a sheet", -1, EdgeWalk::new, walk -> walk.image(k));
        }
    }

    private static void back() {
        Check.says(37, "All is as in an IMAGE: STEP");
        terms("gone back to, it is as it was (these stay; nothing can be UNDONE then).");
        EdgeWalk walk = Twin.busy();
        Check.due("back", walk.back(0), 0);
        counts(walk, 3, 4, 3, 0, 0, 15, 0, 76, 1, 0, 0, 77, 26, -1);
        Check.due("nothing can be undone", walk.undo(), -1);
        walk.step();
        Check.due("but what is done then", walk.undo(), 0);
        Check.due("to the other", walk.back(2), 1);
        counts(walk, 3, 4, 3, 0, 1, 9, 0, 79, 1, 2, 0, 77, 26, -1);
        walk.step();
        walk.give(0, 1);
        walk.stone(0);
        Check.due("it stays as it was", walk.back(2), 1);
        counts(walk, 3, 4, 3, 0, 1, 9, 0, 79, 1, 2, 0, 77, 26, -1);
        walk.image(0);
        Check.due("made anew", walk.back(0), 1);
        EdgeWalk nothing = new EdgeWalk();
        nothing.image(3);
        Check.sheet(nothing, "sheet 2;goer 0 0 0");
        Check.due("without a sheet", nothing.back(3), 0);
        counts(nothing, 0, 0, 0, -1, 0, 0, 0, 0, 0, 0, 0, 0, 0, -1);
        Check.due("no sheet then", nothing.join(0, 0), -1);
    }

    private static void backToTheText() {
        terms("gone back to, it is as it was");
        EdgeWalk walk = Twin.busy();
        walk.sheet();
        walk.note(0, 0, 2);
        ruled(walk, 0, -2);
        walk.back(2);
        ruled(walk, 3, -1);
        folds(walk, 256, 0, 0, 0, 0);
        Check.due("a third note", walk.note(2, 2, 1), 3);
        folds(walk, 0, -2, -2, -2, -2);
        walk.back(0);
        ruled(walk, 4, -1);
        Check.due("notes of that one", walk.count(9), 0);
        walk.back(2);
        Check.due("of the other", walk.count(9), 2);
        walk.note(-1, 0, 0);
        walk.note(1, 0, 7);
        walk.image(3);
        walk.note(-1, 0, 0);
        walk.note(2, 1, 0);
        walk.note(3, 2, 1);
        walk.back(3);
        ruled(walk, 3, -1);
    }

    private static void backLeaves() {
        terms("all but the TAPE and the RULES");
        EdgeWalk walk = Twin.busy();
        Check.rule(walk, "turn 3");
        walk.force(3);
        Check.tape(walk, "sheet 4");
        walk.back(0);
        Check.due("rules stay", walk.count(2), 4);
        Check.due("the rule in force is that of the image", walk.count(3), 0);
        Check.due("the tape stays", walk.count(12), 7);
        Check.due("its text", walk.sheet(), 0);
        Check.due("its side", walk.count(0), 4);
        Check.due("the fourth rule", walk.force(3), 0);
        Check.due("an image stays", walk.back(2), 1);
        Check.due("in which another was in force", walk.count(3), 0);
    }

    private static void backRefused() {
        Check.says(37, "NONE, and nothing happens, if it was never made, or without it.");
        for (int k : new int[] {1, 3, -1, 4, 1000, Integer.MIN_VALUE, Integer.MAX_VALUE}) {
            Twin.refused("back " + k, -1, walk -> walk.back(k));
        }
        for (int k = 0; k < 4; k++) {
            int never = k;
            Twin.refused("never made", -1, EdgeWalk::new, walk -> walk.back(never));
        }
    }
}
