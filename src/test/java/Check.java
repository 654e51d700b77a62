import java.nio.charset.StandardCharsets;
import java.util.function.IntUnaryOperator;

/** What the project's tests share: answers compared, texts fed. */
final class Check {
    private static final int[] FAR = {Integer.MIN_VALUE, Integer.MIN_VALUE + 1, -1000, 1000, Integer.MAX_VALUE};

    private static int wrong = 0;
    private static int asked = 0;
    private static String sentence = "";

    private Check() {
    }

    /** The sentence of the document by which the next answers are due. */
    static void says(String heading, String quote) {
        sentence = "[" + heading + ": " + quote + "] ";
        due("the document says so", Doc.says(heading, quote) ? 1 : 0, 1);
    }

    /** As of a promise; DocTest looks that each promise is quoted. */
    static void says(int promise, String quote) {
        says("Promise " + promise + ": ", quote);
    }

    static void due(String what, int got, int want) {
        asked++;
        if (got != want) {
            wrong++;
            if (wrong <= 40) {
                System.out.println(sentence + what + " answered " + got + ", due is " + want);
            }
        }
    }

    /** The answer to the numbers just beyond a range, and to some far beyond. */
    static void beyond(String what, int least, int most, int want, IntUnaryOperator call) {
        due(what + " " + (least - 1), call.applyAsInt(least - 1), want);
        due(what + " " + (most + 1), call.applyAsInt(most + 1), want);
        for (int far : FAR) {
            if (far < least || far > most) {
                due(what + " " + far, call.applyAsInt(far), want);
            }
        }
    }

    static void finish() {
        System.out.println(asked + " answers, " + wrong + " not as due");
        if (wrong != 0 || asked == 0) {
            System.exit(1);
        }
    }

    static boolean anyWrong() {
        return wrong != 0;
    }

    /** The text alone is on the TAPE then. */
    static void tape(EdgeWalk walk, String text) {
        byte[] bytes = text.getBytes(StandardCharsets.ISO_8859_1);
        walk.end(0);
        for (int at = 0; at < bytes.length; at += 20) {
            int[] five = new int[5];
            for (int i = 0; i < 20; i++) {
                int next = at + i < bytes.length ? bytes[at + i] & 255 : 0;
                five[i / 4] = five[i / 4] << 8 | next;
            }
            walk.feed(five[0], five[1], five[2], five[3], five[4]);
        }
        walk.end(bytes.length);
    }

    static int sheet(EdgeWalk walk, String text) {
        tape(walk, text);
        return walk.sheet();
    }

    static int rule(EdgeWalk walk, String text) {
        tape(walk, text);
        return walk.rule();
    }

    /** A new object with this SHEET; its RULES are told, and the first is IN FORCE. */
    static EdgeWalk walk(String sheet, String... rules) {
        EdgeWalk walk = new EdgeWalk();
        if (sheet(walk, sheet) < 0) {
            throw new IllegalStateException("no sheet: " + sheet);
        }
        for (int k = 0; k < rules.length; k++) {
            if (rule(walk, rules[k]) != k) {
                throw new IllegalStateException("no rule: " + rules[k]);
            }
        }
        if (rules.length > 0) {
            walk.force(0);
        }
        return walk;
    }

    /** The answer to a text with this FAULT. */
    static int fault(int place, int why) {
        return -2 - (1 + 8 * place + why);
    }

    static void steps(EdgeWalk walk, int many) {
        for (int k = 0; k < many; k++) {
            walk.step();
        }
    }
}
