import java.nio.charset.StandardCharsets;
import java.util.Random;

/** Long drawn runs of all calls, answered by the class and by the Oracle. */
public final class OracleTest {
    private static final String[] WORDS = {"goer", "cell", "row", "column", "faces", "food", "margin", "stone",
        "here", "been", "step"};
    private static final String[] SIGNS = {"<", "<=", "=", ">=", ">"};
    private static final String[] STRAY = {"", " ", ";", "[", "]", "not ", " and ", " or ", " if ", "turn ", "<", "=",
        ">", "+", "-", "*", "/", "%", "0", "7", "12345", "123456", "goer", "sheet ", "join ", "stone ", "x", "A", "\0",
        "\u00e9", "food", "\t"};

    private final Random random;
    private EdgeWalk walk;
    private Oracle oracle;

    private OracleTest(long seed) {
        random = new Random(seed);
    }

    public static void main(String[] args) {
        int runs = args.length > 0 ? Integer.parseInt(args[0]) : 400;
        for (int run = 0; run < runs && !Check.anyWrong(); run++) {
            new OracleTest(run).run(run);
        }
        for (int run = 0; run < 20 * runs && !Check.anyWrong(); run++) {
            new OracleTest(-1 - run).texts(run);
        }
        Check.finish();
    }

    private int any(int most) {
        return random.nextInt(most + 1);
    }

    /** Mostly within least to most, now and then just beyond or far out. */
    private int about(int least, int most) {
        switch (any(30)) {
            case 0: return least - 1;
            case 1: return most + 1;
            case 2: return random.nextInt();
            case 3: return least;
            case 4: return most;
            default: return least + random.nextInt(most - least + 1);
        }
    }

    private String pick(String... from) {
        return from[random.nextInt(from.length)];
    }

    private String blanks() {
        return any(5) == 0 ? "  " : "";
    }

    private String sheetText() {
        int side = 2 + any(4);
        StringBuilder text = new StringBuilder("sheet ").append(side);
        int clauses = any(8);
        for (int k = 0; k < clauses; k++) {
            text.append(blanks()).append(';').append(blanks());
            int cell = any(side * side - 1);
            switch (any(4)) {
                case 0:
                case 1:
                    text.append("goer ").append(cell).append(' ').append(any(3)).append(' ');
                    text.append(any(2) == 0 ? any(60) : any(9));
                    break;
                case 2:
                    text.append("join").append(blanks()).append(any(3)).append(' ').append(any(3)).append("  ");
                    text.append(any(2) == 0 ? 9 : any(2));
                    break;
                default:
                    text.append("stone ").append(cell);
                    break;
            }
        }
        return text.toString();
    }

    private String sum() {
        StringBuilder text = new StringBuilder();
        int values = 1 + any(2);
        for (int k = 0; k < values; k++) {
            if (k > 0) {
                text.append(blanks()).append(pick("+", "-", "*", "/", "%")).append(blanks());
            }
            text.append(any(2) == 0 ? String.valueOf(any(3) == 0 ? any(99999) : any(5)) : pick(WORDS));
        }
        return text.toString();
    }

    private String test(int deep) {
        StringBuilder text = new StringBuilder();
        int facts = 1 + any(1);
        for (int k = 0; k < facts; k++) {
            text.append(k == 0 ? "" : pick(" or ", " and "));
            int kind = any(5);
            if (kind == 0 && deep < 11) {
                text.append("not ").append(any(1) == 0 ? "[" + test(deep + 2) + "]" : sum() + pick(SIGNS) + sum());
            } else if (kind == 1 && deep < 11) {
                text.append("[").append(blanks()).append(test(deep + 1)).append("]");
            } else {
                text.append(sum()).append(blanks()).append(pick(SIGNS)).append(blanks()).append(sum());
            }
        }
        return text.toString();
    }

    private String ruleText() {
        StringBuilder text = new StringBuilder();
        int clauses = 1 + any(3);
        for (int k = 0; k < clauses; k++) {
            text.append(k == 0 ? "" : ";").append("turn ").append(sum());
            if (any(4) > 0) {
                text.append(" if ").append(test(0));
            }
        }
        return text.toString();
    }

    /** Texts that reach for a limit: of depth, of VALUES, of CLAUSES, of GOERS, of bytes. */
    private String longText() {
        StringBuilder text = new StringBuilder();
        switch (any(5)) {
            case 0:
                text.append("turn 1 if ");
                for (int k = 9 + any(3); k > 0; k--) {
                    text.append(pick("not ", "["));
                }
                return text.append("1=1").append("]".repeat(any(12))).toString();
            case 1:
                text.append("turn 1").append("+1".repeat(30 + any(30))).append(" if 1=1");
                return text.append(" and 1=1".repeat(any(10))).toString();
            case 2:
                return text.append("turn 1").append(";turn 2".repeat(10 + any(3))).toString();
            case 3:
                return text.append("sheet 2").append(";goer 0 0 0".repeat(3 + any(3))).toString();
            case 4:
                return text.append("sheet 2").append(";stone 0".repeat(37 + any(3))).append(pick("", ";", ";x")).toString();
            default:
                return text.append(" ".repeat(any(400))).append(pick("sheet 3", "turn 1")).toString();
        }
    }

    private String spoiled(String text) {
        StringBuilder spoiled = new StringBuilder(text);
        int times = 1 + any(1);
        for (int k = 0; k < times; k++) {
            int at = any(spoiled.length());
            if (any(1) == 0 && at < spoiled.length()) {
                spoiled.deleteCharAt(at);
            }
            spoiled.insert(at, pick(STRAY));
        }
        return spoiled.toString();
    }

    private void texts(int run) {
        walk = new EdgeWalk();
        oracle = new Oracle();
        for (int k = 0; k < 8; k++) {
            boolean sheet = any(1) == 0;
            String text = any(4) == 0 ? longText() : sheet ? sheetText() : ruleText();
            tell(run, any(2) == 0 ? text : spoiled(text), sheet);
        }
    }

    private void tell(int run, String text, boolean sheet) {
        byte[] all = text.getBytes(StandardCharsets.ISO_8859_1);
        String told = "text " + run + " '" + text + "' ";
        for (int at = 0; at < all.length; at += 20) {
            int[] five = new int[5];
            for (int i = 0; i < 20; i++) {
                five[i / 4] = five[i / 4] << 8 | (at + i < all.length ? all[at + i] & 255 : 0);
            }
            Check.due(told + "feed", walk.feed(five[0], five[1], five[2], five[3], five[4]),
                    oracle.feed(five[0], five[1], five[2], five[3], five[4]));
        }
        Check.due(told + "end", walk.end(all.length), oracle.end(all.length));
        if (any(40) == 0) {
            int n = about(0, 400);
            Check.due(told + "end " + n, walk.end(n), oracle.end(n));
        }
        if (sheet) {
            Check.due(told + "sheet", walk.sheet(), oracle.sheet());
        } else {
            Check.due(told + "rule", walk.rule(), oracle.rule());
        }
    }

    private void run(int run) {
        walk = new EdgeWalk();
        oracle = new Oracle();
        if (any(3) > 0) {
            tell(run, sheetText(), true);
        }
        for (int k = 0; k < 200 && !Check.anyWrong(); k++) {
            String call = "run " + run + " call " + k;
            if (any(2) == 0) {
                act(call, any(13));
            } else {
                ask(call, any(21));
            }
            if (k % 8 == 0) {
                compareAll(call);
            }
        }
    }

    private void compareAll(String call) {
        for (int what = -1; what <= 13; what++) {
            Check.due(call + " count " + what, walk.count(what), oracle.count(what));
        }
        for (int g = -1; g <= 5; g++) {
            for (int what = -1; what <= 6; what++) {
                Check.due(call + " goer " + g + " " + what, walk.goer(g, what), oracle.goer(g, what));
            }
        }
        for (int e = -1; e <= 4; e++) {
            for (int what = -1; what <= 2; what++) {
                Check.due(call + " join " + e + " " + what, walk.join(e, what), oracle.join(e, what));
            }
        }
        for (int cell = -1; cell <= 36; cell++) {
            Check.due(call + " stoneIn " + cell, walk.stoneIn(cell), oracle.stoneIn(cell));
        }
    }

    private void act(String call, int which) {
        int g = about(0, 4);
        int c = about(0, 35);
        int f = about(0, 3);
        int e = about(0, 3);
        String told = call + " act " + which + " " + g + " " + c + " " + f + " " + e;
        switch (which) {
            case 0:
                tell(k(call), any(3) == 0 ? spoiled(sheetText()) : sheetText(), true);
                break;
            case 1:
                tell(k(call), any(3) == 0 ? spoiled(ruleText()) : ruleText(), false);
                break;
            case 2:
                int r = about(-1, 5);
                Check.due(told + " force " + r, walk.force(r), oracle.force(r));
                break;
            case 3:
            case 4:
            case 5:
                Check.due(told + " step", walk.step(), oracle.step());
                break;
            case 6:
                int much = about(1, 20);
                Check.due(told + " give " + much, walk.give(g, much), oracle.give(g, much));
                break;
            case 7:
                Check.due(told + " way", walk.way(g, f), oracle.way(g, f));
                break;
            case 8:
                Check.due(told + " stone", walk.stone(c), oracle.stone(c));
                break;
            case 9:
                Check.due(told + " fold", walk.fold(e, f), oracle.fold(e, f));
                break;
            case 10:
                Check.due(told + " undo", walk.undo(), oracle.undo());
                break;
            case 11:
                int x = any(9) == 0 ? random.nextInt() : random.nextInt() & 0x7fffffff;
                Check.due(told + " seed " + x, walk.seed(x), oracle.seed(x));
                break;
            case 12:
                Check.due(told + " image", walk.image(f), oracle.image(f));
                break;
            default:
                Check.due(told + " back", walk.back(f), oracle.back(f));
                break;
        }
    }

    private static int k(String call) {
        return call.hashCode();
    }

    private void ask(String call, int which) {
        int g = about(0, 4);
        int h = about(0, 4);
        int c = about(0, 35);
        int n = about(0, any(1) == 0 ? 10 : 100);
        int w = about(0, 3);
        String told = call + " ask " + which + " g" + g + " h" + h + " c" + c + " n" + n + " w" + w;
        switch (which) {
            case 0: Check.due(told + " ahead", walk.ahead(g, n, w), oracle.ahead(g, n, w)); break;
            case 1: Check.due(told + " home", walk.home(g), oracle.home(g)); break;
            case 2: Check.due(told + " gone", walk.gone(n), oracle.gone(n)); break;
            case 3: Check.due(told + " leastFood", walk.leastFood(g, n), oracle.leastFood(g, n)); break;
            case 4: Check.due(told + " meet", walk.meet(g, h), oracle.meet(g, h)); break;
            case 5: Check.due(told + " shortest", walk.shortest(g, c), oracle.shortest(g, c)); break;
            case 6: Check.due(told + " seen", walk.seen(g, n), oracle.seen(g, n)); break;
            case 7: Check.due(told + " longest", walk.longest(n, w), oracle.longest(n, w)); break;
            case 8: askBest(told); break;
            case 9: askRests(told, g, h); break;
            case 10: Check.due(told + " ring", walk.ring(w), oracle.ring(w)); break;
            case 11: askBread(told, g); break;
            case 12: Check.due(told + " ruled", walk.ruled(w), oracle.ruled(w)); break;
            case 13: Check.due(told + " look", walk.look(n, w), oracle.look(n, w)); break;
            case 14:
                int edge = about(-1, 3);
                Check.due(told + " folds " + edge, walk.folds(edge), oracle.folds(edge));
                break;
            case 15: askGusts(told); break;
            case 16: askHungry(told, g); break;
            case 17: Check.due(told + " clear", walk.note(-1, g, c), oracle.note(-1, g, c)); break;
            default: tellNote(told, g); break;
        }
    }

    private void askHungry(String told, int g) {
        int n = 1 + any(99);
        Check.due(told + " hungry " + n, walk.leastFood(g, n), oracle.leastFood(g, n));
    }

    private void askBest(String told) {
        int n = about(1, 40);
        for (int what = -1; what <= 4; what++) {
            Check.due(told + " bestFold " + n + " " + what, walk.bestFold(n, what), oracle.bestFold(n, what));
            Check.due(told + " bestStone " + n + " " + what, walk.bestStone(n, what), oracle.bestStone(n, what));
        }
    }

    private void askRests(String told, int g, int h) {
        int n = about(1, 20);
        for (int what = -1; what <= 3; what++) {
            Check.due(told + " rests " + n + " " + what, walk.rests(g, h, n, what), oracle.rests(g, h, n, what));
        }
    }

    private void askBread(String told, int g) {
        int much = about(0, any(1) == 0 ? 9999 : 20);
        Check.due(told + " bread " + much, walk.bread(much, g), oracle.bread(much, g));
    }

    private void askGusts(String told) {
        int m = about(1, 10);
        int n = about(1, 60);
        int p = about(0, 100);
        int w = about(0, 1);
        Check.due(told + " gusts", walk.gusts(m, n, p, w), oracle.gusts(m, n, p, w));
    }

    /** Half of the NOTES are so, as it goes from here, so that some RULES and foldings fit. */
    private void tellNote(String told, int g) {
        int n = about(0, any(1) == 0 ? 5 : 60);
        int cell = about(-1, 35);
        int step = oracle.count(4);
        if (any(3) > 0 && n >= step && n <= 60) {
            cell = oracle.ahead(g, n - step, 0);
        }
        Check.due(told + " note " + n + " " + cell, walk.note(n, g, cell), oracle.note(n, g, cell));
    }
}
