/** FAULTS of texts (promises 4 and 5): which, and at which place. */
public final class FaultsTest {
    public static void main(String[] args) {
        sheets();
        sheetLimits();
        rules();
        deep();
        parts();
        clauses();
        fine();
        Check.finish();
    }

    private static void sheet(String text, int place, int why) {
        Check.due("sheet '" + text + "'", Check.sheet(new EdgeWalk(), text), Check.fault(place, why));
    }

    private static void rule(String text, int place, int why) {
        Check.due("rule '" + text + "'", Check.rule(new EdgeWalk(), text), Check.fault(place, why));
    }

    private static void sheets() {
        sheet("", 0, 0);
        sheet("   ", 3, 0);
        sheet("sheet", 5, 0);
        sheet("sheet ", 6, 0);
        sheet("sheets 2", 0, 0);
        sheet("Sheet 2", 0, 0);
        sheet(" shee 2", 1, 0);
        sheet("sheet 1", 6, 1);
        sheet("sheet 7", 6, 1);
        sheet("sheet 000002", 6, 1);
        sheet("sheet 2;", 8, 0);
        sheet("sheet 2; ;stone 0", 9, 0);
        sheet("sheet 2 1", 8, 0);
        sheet("sheet 2 1234567", 8, 0);
        sheet("sheet 2x", 7, 0);
        sheet("sheet 2,stone 1", 7, 0);
        sheet("sheet 2\0", 7, 0);
        sheet("sheet -2", 6, 0);
        sheet("turn 1", 0, 0);
        sheet("sheet 2;turn 1", 8, 0);
        sheet("sheet 2;goer 4 0 0", 13, 1);
        sheet("sheet 2;goer 0 4 0", 15, 1);
        sheet("sheet 2;goer 0 0 61", 17, 1);
        sheet("sheet 2;goer 0 0", 16, 0);
        sheet("sheet 2;goer 0 0;", 16, 0);
        sheet("sheet 2;goer 0 0 0 0", 19, 0);
        sheet("sheet 2;join 4 0 0", 13, 1);
        sheet("sheet 2;join 0 4 0", 15, 1);
        sheet("sheet 2;join 0 0 10", 17, 1);
        sheet("sheet 2;stone 4", 14, 1);
        sheet("sheet 6;stone 36", 14, 1);
        sheet("sheet 2;stone", 13, 0);
        sheet("sheet 2;\u00e9", 8, 0);
    }

    private static void sheetLimits() {
        sheet("goer 0 0 0", 0, 4);
        sheet("  stone 0;sheet 2", 2, 4);
        sheet("join 9 9 9", 0, 4);
        sheet("sheet 2;sheet 2", 8, 4);
        sheet("sheet 2; sheet 9", 9, 4);
        sheet("sheet 2" + ";goer 0 0 0".repeat(6), 7 + 11 * 5 + 1, 4);
        sheet("sheet 2" + ";stone 3".repeat(40), 7 + 8 * 39 + 1, 4);
        sheet("sheet 2" + ";stone 3".repeat(39) + ";", 7 + 8 * 39 + 1, 0);
        sheet("sheet 2" + ";stone 3".repeat(39) + ";stones", 7 + 8 * 39 + 1, 0);
        sheet("sheet 2" + ";stone 3".repeat(39) + "; stone", 7 + 8 * 39 + 2, 4);
    }

    private static void rules() {
        rule("", 0, 0);
        rule("turn", 4, 0);
        rule("turns 1", 0, 0);
        rule("turn x", 5, 0);
        rule("turn foods", 5, 0);
        rule("turn 1;", 7, 0);
        rule("turn 1 if", 9, 0);
        rule("turn 1 iff 1=1", 7, 0);
        rule("turn 1 if 1", 11, 0);
        rule("turn 1 if 1 and 1=1", 12, 0);
        rule("turn 1 if 1]", 11, 0);
        rule("turn 1 if 1=1]", 13, 0);
        rule("turn 1 if here = 1]", 18, 0);
        rule("turn 1 if [1=1", 14, 0);
        rule("turn 1 if [1=1;turn 2", 14, 0);
        rule("turn 1 if [1]=1", 12, 0);
        rule("turn 1 if [1=1]=1", 15, 0);
        rule("turn 1 if [1=1]+1", 15, 0);
        rule("turn 1 if 1=1=1", 13, 0);
        rule("turn 1 if 1< =1", 13, 0);
        rule("turn 1 if 1=<1", 12, 0);
        rule("turn 1 if 1==1", 12, 0);
        rule("turn 1 if 1=1 if 1=1", 14, 0);
        rule("turn 1 if not", 13, 0);
        rule("turn 1 if not 1", 15, 0);
        rule("turn 1 if 1=1 or", 16, 0);
        rule("turn 1 if 1=1 and or", 18, 0);
        rule("turn 1 if and 1=1", 10, 0);
        rule("turn 1 < 2", 7, 0);
        rule("turn 1 and 2", 7, 0);
        rule("turn [1]", 5, 0);
        rule("turn not 1", 5, 0);
        rule("turn -1", 5, 0);
        rule("turn 5 %", 8, 0);
        rule("turn 1 2", 7, 0);
        rule("turn 1 turn 2", 7, 0);
        rule("turn 1 if 1=1 1", 14, 0);
        rule("turn 123456", 5, 1);
        rule("turn 1+000000", 7, 1);
        rule("turn 1 if 1=123456 and x", 12, 1);
        rule("turn 1 if 1=1;goer", 14, 0);
        rule("sheet 2", 0, 0);
    }

    private static void deep() {
        rule("turn 1 if " + "[".repeat(11) + "1=1" + "]".repeat(11), 20, 2);
        rule("turn 1 if " + "not ".repeat(11) + "1=1", 50, 2);
        rule("turn 1 if " + "not[".repeat(5) + " not 1=1" + "]".repeat(5), 31, 2);
        rule("turn 1 if " + "[".repeat(10) + "1=1 and not 1=1", 28, 2);
        rule("turn 1 if not 1=1 and " + "[".repeat(11), 32, 2);
        rule("turn 1 if not not 1=1;turn 1 if " + "[".repeat(11), 42, 2);
    }

    private static void parts() {
        rule("turn 1" + "+1".repeat(60), 5 + 2 * 60, 3);
        rule("turn 1" + "+1".repeat(60) + "+1", 5 + 2 * 60, 3);
        rule("turn 1" + "+1".repeat(59) + " + row", 5 + 2 * 60 + 2, 3);
        rule("turn 1" + "+1".repeat(58) + " if 1 <= 1", 6 + 2 * 58 + 6, 3);
        rule("turn 1" + "+1".repeat(57) + " if 1 <= 1", 6 + 2 * 57 + 9, 3);
        rule("turn 1" + "+1".repeat(59) + "+123456", 5 + 2 * 60, 1);
        rule("turn 1" + "+1".repeat(59) + "+rows", 5 + 2 * 60, 0);
        rule("turn 1" + "+1".repeat(59) + "+", 5 + 2 * 60, 0);
        rule("turn 1" + "+1".repeat(59) + ";turn 1", 5 + 2 * 60 + 5, 3);
    }

    private static void clauses() {
        rule("turn 1" + ";turn 1".repeat(12), 6 + 7 * 11 + 1, 4);
        rule("turn 1" + ";turn 1".repeat(11) + ";turns", 6 + 7 * 11 + 1, 0);
        rule("turn 1" + ";turn 1".repeat(11) + ";", 6 + 7 * 11 + 1, 0);
    }

    private static void fine(String text) {
        Check.due("rule '" + text + "'", Check.rule(new EdgeWalk(), text), 0);
    }

    private static void fine() {
        fine("turn 1" + ";turn 1".repeat(11));
        fine("turn 1" + "+1".repeat(59));
        fine("turn 1" + "+1".repeat(56) + " if 1 <= 1");
        fine("turn 1 if " + "[".repeat(10) + "1=1" + "]".repeat(10));
        fine("turn 1 if " + "not ".repeat(10) + "1=1 and " + "not ".repeat(10) + "1=1");
        fine("turn 1 if [1=1] and [[[[[[[[[[1=1]]]]]]]]]] or not[not[1=1]]");
        fine("turn1if1=1and[1<2or 3>=3]");
        fine("  turn  goer+cell-row*column/faces%food  if margin<=stone and here>been or step=99999  ");
        fine("turn 00000");
    }
}
