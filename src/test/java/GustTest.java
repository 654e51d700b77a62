/** Promises 33 and 34: x, and walks of drawn gusts. */
public final class GustTest {
    private static final String SHEET = "sheet 3;goer 4 0 9;goer 0 1 30;goer 8 2 0;join 0 1 1;stone 5";
    private static final String RULE = "turn 1 if stone = 1";

    private static long x;

    public static void main(String[] args) {
        seed();
        withoutGusts();
        againstSteps();
        wrong();
        Check.finish();
    }

    private static void seed() {
        EdgeWalk walk = new EdgeWalk();
        Check.due("x at first", walk.seed(7), 0);
        Check.due("most", walk.seed(Integer.MAX_VALUE), 7);
        Check.due("below 0", walk.seed(-1), -1);
        Check.due("far below 0", walk.seed(Integer.MIN_VALUE), -1);
        Check.due("x", walk.count(11), Integer.MAX_VALUE);
        Check.due("0", walk.seed(0), Integer.MAX_VALUE);
    }

    private static void withoutGusts() {
        EdgeWalk walk = Check.walk("sheet 3;goer 4 0 5;goer 3 1 7;stone 5");
        Check.due("on, once", walk.gusts(1, 2, 0, 0), 1);
        Check.due("on, ten times", walk.gusts(10, 2, 0, 0), 10);
        Check.due("food, three times", walk.gusts(3, 3, 0, 1), 3 * (4 + 7));
        EdgeWalk nobody = Check.walk("sheet 3");
        Check.due("nobody", nobody.gusts(10, 60, 100, 0), 0);
        Check.due("no food", nobody.gusts(10, 60, 100, 1), 0);
    }

    private static int draw() {
        x = (x * 1103515245L + 12345L) % 2147483648L;
        return (int) (x / 65536L);
    }

    /** The same by hand: WAY and STEP on an object of their own, for each time. */
    private static void againstSteps() {
        int[] seeds = {0, 1, 12345, 2147483647};
        for (int seed : seeds) {
            for (int p = 0; p <= 100; p += 20) {
                EdgeWalk walk = Check.walk(SHEET, RULE);
                walk.seed(seed);
                walk.step();
                x = seed;
                int on = 0;
                int food = 0;
                for (int m = 1; m <= 4; m++) {
                    EdgeWalk hand = byHand(17, p);
                    on += Integer.bitCount(hand.count(5));
                    food += hand.count(7);
                    Check.due("on " + seed + " " + p + " " + m, walk.gusts(m, 17, p, 0), on);
                    Check.due("food " + seed + " " + p + " " + m, walk.gusts(m, 17, p, 1), food);
                }
                Check.due("x as it was", walk.count(11), seed);
                Check.due("step as it was", walk.count(4), 1);
            }
        }
    }

    private static EdgeWalk byHand(int n, int p) {
        EdgeWalk hand = Check.walk(SHEET, RULE);
        hand.step();
        for (int k = 0; k < n; k++) {
            if (draw() % 100 < p) {
                int who = draw() % 3;
                hand.way(who, draw() % 4);
            }
            hand.step();
        }
        return hand;
    }

    private static void wrong() {
        EdgeWalk walk = Check.walk(SHEET);
        Check.due("the least of all", walk.gusts(1, 1, 0, 1), 39);
        Check.due("the most of all", walk.gusts(10, 60, 100, 0) >= 0 ? 1 : 0, 1);
        Check.due("m 0", walk.gusts(0, 1, 0, 0), -1);
        Check.due("m 11", walk.gusts(11, 1, 0, 0), -1);
        Check.due("n 0", walk.gusts(1, 0, 0, 0), -1);
        Check.due("n 61", walk.gusts(1, 61, 0, 0), -1);
        Check.due("p -1", walk.gusts(1, 1, -1, 0), -1);
        Check.due("p 101", walk.gusts(1, 1, 101, 0), -1);
        Check.due("what -1", walk.gusts(1, 1, 0, -1), -1);
        Check.due("what 2", walk.gusts(1, 1, 0, 2), -1);
    }
}
