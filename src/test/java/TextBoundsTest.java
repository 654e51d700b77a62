/** Each sentence of part I of the Terms that names a bound of the texts, and each FAULT. */
public final class TextBoundsTest {
    private static final String[] WORDS = {"goer", "cell", "row", "column", "faces", "food", "margin", "stone", "here",
        "been", "step"};

    public static void main(String[] args) {
        sheetBytes();
        sheetClauses();
        side();
        sheetOnceAndFirst();
        goerNumbers();
        joinNumbers();
        joinLastTold();
        stoneNumber();
        goersInOrder();
        cellsInRows();
        edgesFaced();
        begin();
        ruleBytesAndClauses();
        readAnew();
        turnAndIf();
        numbers();
        words();
        signs();
        blanks();
        deep();
        valuesAndFacts();
        faultStrange();
        faultEnd();
        faultNumber();
        faultClause();
        firstAlong();
        leastOfOnePlace();
        Check.finish();
    }

    private static void terms(String quote) {
        Check.says("Terms", quote);
    }

    private static void sheet(String text, int goers) {
        Check.due("sheet '" + text + "'", Check.sheet(new EdgeWalk(), text), goers);
    }

    private static void sheet(String text, int place, int why) {
        Check.due("sheet '" + text + "'", Check.sheet(new EdgeWalk(), text), Check.fault(place, why));
    }

    private static void rule(String text) {
        Check.due("rule '" + text + "'", Check.rule(new EdgeWalk(), text), 0);
    }

    private static void rule(String text, int place, int why) {
        Check.due("rule '" + text + "'", Check.rule(new EdgeWalk(), text), Check.fault(place, why));
    }

    /** How many quarters a GOER turns who FACES 0 in the midst of a SHEET. */
    private static int turned(String rule) {
        return Check.walk("sheet 5;goer 12 0 0", rule).ahead(0, 1, 1);
    }

    private static void sheetBytes() {
        terms("A SHEET is a text of at most 400 bytes");
        sheet(" ".repeat(393) + "sheet 2", 0);
        sheet("sheet 2" + " ".repeat(393), 0);
        sheet("sheet 2" + ";goer 3 3 60".repeat(5) + ";join 0 1 9".repeat(4) + " ".repeat(289), 5);
        sheet("sheet 2" + " ".repeat(392) + "x", 399, 0);
        sheet("sheet 2" + " ".repeat(392) + ";", 400, 0);
        sheet(" ".repeat(400), 400, 0);
        sheet(" ".repeat(399) + "s", 399, 0);
        sheet(" ".repeat(392) + "sheet 20", 398, 1);
    }

    private static void sheetClauses() {
        terms("CLAUSE { ; CLAUSE }, 40 at most");
        for (int more = 0; more <= 39; more++) {
            sheet("sheet 2" + ";stone 0".repeat(more), 0);
        }
        sheet("sheet 2" + ";stone 0".repeat(40), 320, 4);
        sheet("sheet 2" + ";stone 0".repeat(39) + ";join 0 0 0", 320, 4);
        sheet("", 0, 0);
        sheet(";sheet 2", 0, 0);
        sheet("sheet 2;", 8, 0);
        sheet("sheet 2;;stone 0", 8, 0);
        sheet("sheet 2 stone 0", 8, 0);
    }

    private static void side() {
        terms("sheet NUMBER (SIDE 2 to 6;");
        for (int side = 0; side <= 12; side++) {
            EdgeWalk walk = new EdgeWalk();
            boolean fits = side >= 2 && side <= 6;
            Check.due("sheet " + side, Check.sheet(walk, "sheet " + side), fits ? 0 : Check.fault(6, 1));
            Check.due("side", walk.count(0), fits ? side : 0);
            Check.due("the last cell", walk.stoneIn(side * side - 1), fits ? 0 : -1);
            Check.due("behind it", walk.stoneIn(side * side), -1);
        }
        sheet("sheet 99999", 6, 1);
    }

    private static void sheetOnceAndFirst() {
        terms("once, the first CLAUSE)");
        sheet("sheet 2;sheet 2", 8, 4);
        sheet("sheet 2;stone 0;sheet 2", 16, 4);
        sheet("sheet 2;sheet", 8, 4);
        sheet("goer 0 0 0;sheet 2", 0, 4);
        sheet("join 0 0 0;sheet 2", 0, 4);
        sheet(" stone 0;sheet 2", 1, 4);
        sheet("stone", 0, 4);
    }

    private static void goerNumbers() {
        terms("goer NUMBER NUMBER NUMBER (a CELL, 0 to SIDE * SIDE - 1; FACES 0 to 3; FOOD 0 to 60)");
        for (int side = 2; side <= 6; side++) {
            int cells = side * side;
            for (int cell = 0; cell <= cells + 1; cell++) {
                EdgeWalk walk = new EdgeWalk();
                int want = cell < cells ? 1 : Check.fault(13, 1);
                Check.due("cell " + cell, Check.sheet(walk, "sheet " + side + ";goer " + cell + " 0 0"), want);
                Check.due("there", walk.goer(0, 0), cell < cells ? cell : -2);
            }
        }
        for (int faces = 0; faces <= 5; faces++) {
            EdgeWalk walk = new EdgeWalk();
            int want = faces <= 3 ? 1 : Check.fault(15, 1);
            Check.due("faces " + faces, Check.sheet(walk, "sheet 2;goer 0 " + faces + " 0"), want);
            Check.due("so", walk.goer(0, 1), faces <= 3 ? faces : -2);
        }
        for (int food = 0; food <= 100; food++) {
            EdgeWalk walk = new EdgeWalk();
            int want = food <= 60 ? 1 : Check.fault(17, 1);
            Check.due("food " + food, Check.sheet(walk, "sheet 2;goer 0 0 " + food), want);
            Check.due("so much", walk.goer(0, 2), food <= 60 ? food : -2);
        }
        sheet("sheet 2;goer", 12, 0);
        sheet("sheet 2;goer 0", 14, 0);
        sheet("sheet 2;goer 0 0", 16, 0);
        sheet("sheet 2;goer 0 0 0 0", 19, 0);
    }

    private static void joinNumbers() {
        terms("join NUMBER NUMBER NUMBER (an EDGE 0 to 3; the EDGE 0 to 3 at which it leads in; DAYS 0 to 9;");
        for (int k = 0; k < 6; k++) {
            sheet("sheet 2;join " + k + " 0 0", k <= 3 ? 0 : Check.fault(13, 1));
            sheet("sheet 2;join 0 " + k + " 0", k <= 3 ? 0 : Check.fault(15, 1));
            EdgeWalk walk = new EdgeWalk();
            Check.sheet(walk, "sheet 2;join " + k % 4 + " " + (k + 1) % 4 + " " + (k + 4));
            Check.due("leads", walk.join(k % 4, 0), (k + 1) % 4);
            Check.due("days", walk.join(k % 4, 1), k + 4);
        }
        sheet("sheet 2;join 0 0 9", 0);
        sheet("sheet 2;join 0 0 10", 17, 1);
        sheet("sheet 2;join 0 0 99", 17, 1);
        sheet("sheet 2;join", 12, 0);
        sheet("sheet 2;join 0", 14, 0);
        sheet("sheet 2;join 0 0", 16, 0);
        sheet("sheet 2;join 0 0 0 0", 19, 0);
    }

    private static void joinLastTold() {
        terms("of the same first EDGE the last told; without it leads in at itself, DAYS 0)");
        EdgeWalk walk = Check.walk("sheet 2;join 1 0 9;join 2 3 1;join 1 2 0;join 2 2 2;join 1 3 4");
        int[] leads = {0, 3, 2, 3};
        int[] days = {0, 4, 2, 0};
        for (int edge = 0; edge < 4; edge++) {
            Check.due("leads " + edge, walk.join(edge, 0), leads[edge]);
            Check.due("days " + edge, walk.join(edge, 1), days[edge]);
        }
    }

    private static void stoneNumber() {
        terms("stone NUMBER (a CELL; told already: nothing new)");
        for (int side = 2; side <= 6; side++) {
            int last = side * side - 1;
            EdgeWalk walk = Check.walk("sheet " + side + ";stone 0;stone " + last + ";stone 0;stone 0");
            Check.due("two", walk.count(8), 2);
            Check.due("days are no stones", Check.walk("sheet " + side + ";join 3 3 9;goer 3 3 9;stone 1").count(8), 1);
            Check.due("the first", walk.stoneIn(0), 1);
            Check.due("the last", walk.stoneIn(last), 1);
            sheet("sheet " + side + ";stone " + (last + 1), 14, 1);
        }
        StringBuilder all = new StringBuilder("sheet 6");
        for (int cell = 0; cell < 36; cell++) {
            all.append(";stone ").append(cell);
        }
        Check.due("in every cell", Check.walk(all.toString()).count(8), 36);
        sheet("sheet 2;stone 0 1", 16, 0);
    }

    private static void goersInOrder() {
        terms("GOERS 0 to 4, in the order told; several may be in one CELL, and on one with a STONE.");
        EdgeWalk walk = Check.walk("sheet 3;goer 8 0 5;goer 8 1 4;stone 8;goer 0 2 3;goer 8 3 2;goer 8 0 1");
        int[] cells = {8, 8, 0, 8, 8};
        for (int g = 0; g < 5; g++) {
            Check.due("cell of " + g, walk.goer(g, 0), cells[g]);
            Check.due("faces of " + g, walk.goer(g, 1), g % 4);
            Check.due("food of " + g, walk.goer(g, 2), 5 - g);
        }
        Check.due("no sixth", walk.goer(5, 0), -2);
        sheet("sheet 3" + ";goer 0 0 0".repeat(5), 5);
        sheet("sheet 3" + ";goer 0 0 0".repeat(6), 63, 4);
        sheet("sheet 3" + ";goer 0 0 0".repeat(5) + ";stone 0;goer", 71, 4);
    }

    private static int next(int side, int cell, int faces) {
        int row = cell / side + (faces == 0 ? -1 : faces == 2 ? 1 : 0);
        int column = cell % side + (faces == 3 ? -1 : faces == 1 ? 1 : 0);
        boolean on = row >= 0 && row < side && column >= 0 && column < side;
        return on ? row * side + column : -1;
    }

    private static void cellsInRows() {
        terms("CELLS lie in SIDE rows of SIDE, by numbers.");
        for (int side = 2; side <= 6; side++) {
            for (int cell = 0; cell < side * side; cell++) {
                for (int faces = 0; faces < 4; faces++) {
                    EdgeWalk walk = Check.walk("sheet " + side + ";goer " + cell + " " + faces + " 0");
                    walk.step();
                    String from = "from " + cell + " of " + side + " facing " + faces;
                    Check.due(from, walk.goer(0, 0), next(side, cell, faces));
                }
            }
        }
    }

    private static void edgesFaced() {
        terms("FACES 0: to the row ahead, 1: to the CELL behind in the row, 2: to the row behind, "
                + "3: to the CELL ahead in the row; EDGE 0 to 3 is the one so faced.");
        int[] onward = {7, 13, 17, 11};
        for (int faces = 0; faces < 4; faces++) {
            EdgeWalk walk = Check.walk("sheet 5;goer 12 " + faces + " 0;join 0 0 6;join 1 1 7;join 2 2 8;join 3 3 9");
            walk.step();
            Check.due("next", walk.goer(0, 0), onward[faces]);
            Check.steps(walk, 2);
            Check.due("over the edge", walk.goer(0, 4), 6 + faces);
        }
    }

    private static void begin() {
        terms("It is STEP 0; all GOERS are ON the SHEET, nobody has been OUT.");
        EdgeWalk walk = Check.walk("sheet 2;goer 0 0 0;goer 3 2 1;goer 1 1 60;goer 2 3 9;goer 2 0 0");
        Check.due("step", walk.count(4), 0);
        Check.due("on", walk.count(5), 31);
        Check.due("lost", walk.count(6), 0);
        for (int g = 0; g < 5; g++) {
            Check.due("on", walk.goer(g, 3), 0);
            Check.due("days left", walk.goer(g, 4), 0);
            Check.due("been", walk.goer(g, 5), 0);
        }
    }

    private static void ruleBytesAndClauses() {
        terms("RULES 0 to 5: texts likewise, 12 CLAUSES at most: turn SUM [ if TEST ].");
        for (int more = 0; more <= 11; more++) {
            rule("turn 1" + ";turn 1".repeat(more));
        }
        rule("turn 1" + ";turn 1".repeat(12), 84, 4);
        rule("turn 1 if 1=2" + ";turn 1 if 1=2".repeat(11));
        rule("turn 1 if 1=2" + ";turn 1 if 1=2".repeat(12), 168, 4);
        Check.due("the twelfth counts", turned("turn 1 if 1=2" + ";turn 1 if 1=2".repeat(10) + ";turn 3"), 3);
        rule(" ".repeat(394) + "turn 1");
        rule("turn 1" + " ".repeat(394));
        rule("turn 1" + " ".repeat(393) + ";", 400, 0);
        rule("turn 1" + " ".repeat(393) + "x", 399, 0);
        rule(" ".repeat(400), 400, 0);
        Check.due("at the 400th byte", turned("turn" + " ".repeat(395) + "3"), 3);
    }

    /** What a RULE before, or a FAULT in one, left half read is gone. */
    private static void readAnew() {
        terms("RULES 0 to 5: texts likewise");
        String[] before = {"turn 1 if 1=1 or 2=3 and not [3=3]", "turn 1 if [[[not [not 1=1 or 2*3+", "turn 1+2*",
            "turn 1 if not not not not not not not not not not [", "turn 1" + "+1".repeat(60), "turn 1" + ";turn 1".repeat(12),
            "turn 1 if 1=1 and", "turn 1 if 1"};
        for (String text : before) {
            EdgeWalk walk = Check.walk("sheet 3;goer 4 0 0");
            Check.rule(walk, text);
            int number = walk.count(2);
            Check.due("behind '" + text + "'", Check.rule(walk, "turn 3 if 2=2 and [2=2 or 2=3]"), number);
            walk.force(number);
            Check.due("by it, behind '" + text + "'", walk.ahead(0, 1, 1), 3);
            Check.rule(walk, text);
            number = walk.count(2);
            Check.due("again", Check.rule(walk, "turn 2 if 2=3;turn 1 if " + "not ".repeat(10) + "1=1" + " and 1=1".repeat(17)),
                    number);
            walk.force(number);
            Check.due("by it, again", walk.ahead(0, 1, 1), 1);
        }
    }

    private static void turnAndIf() {
        terms("turn SUM [ if TEST ]. TEST: PART { or PART }. PART: FACT { and FACT }. "
                + "FACT: not FACT | [ TEST ] (these brackets are signs) | SUM SIGN SUM");
        rule("turn", 4, 0);
        rule("turn ;turn 1", 5, 0);
        rule("turn if 1=1", 5, 0);
        rule("turn 1 if", 9, 0);
        rule("turn 1 if ;turn 1", 10, 0);
        rule("if 1=1", 0, 0);
        rule("1", 0, 0);
        rule("turn 1 if 1=1 or", 16, 0);
        rule("turn 1 if 1=1 and", 17, 0);
        rule("turn 1 if or 1=1", 10, 0);
        rule("turn 1 if not", 13, 0);
        rule("turn 1 if []", 11, 0);
        rule("turn 1 if [1=1", 14, 0);
        rule("turn 1 if [1=1]]", 15, 0);
        rule("turn 1 if 1=1]", 13, 0);
        rule("turn 1 if [1=1] not 1=1", 16, 0);
        rule("turn 1 if =1", 10, 0);
        rule("turn 1 if 1=", 12, 0);
        rule("turn 1 if 1", 11, 0);
        rule("turn 1 if [1+1]=2", 14, 0);
        rule("turn 1 if [1=1]+1=1", 15, 0);
        rule("turn 1 if [1=1]=1", 15, 0);
        rule("turn 1 if [1=1] if 1=1", 16, 0);
        rule("turn 1 if [1=1] 1", 16, 0);
        rule("turn [1]", 5, 0);
        rule("turn 1+", 7, 0);
        rule("turn *1", 5, 0);
        rule("turn 1+-1", 7, 0);
        rule("turn 1 if [1=1];turn 2 if not[not 1=1 or 2=2 and 3=3]and 1=1");
    }

    private static void numbers() {
        terms("NUMBER (1 to 5 digits, as far as digits go on)");
        String digits = "";
        for (int many = 1; many <= 8; many++) {
            digits = digits + (many % 10);
            int want = many <= 5 ? Integer.parseInt(digits) % 4 : 0;
            if (many <= 5) {
                Check.due(digits, turned("turn " + digits), want);
            } else {
                rule("turn " + digits, 5, 1);
            }
        }
        Check.due("99999", turned("turn 99999"), 3);
        Check.due("99999 is not less", turned("turn 1 if 99999 > 99998 and 99999 < 50000*2"), 1);
        Check.due("00000", turned("turn 00000"), 0);
        Check.due("00003", turned("turn 00003"), 3);
        rule("turn 000000", 5, 1);
        rule("turn 000003", 5, 1);
        rule("turn 1 2", 7, 0);
        rule("turn 12345 6", 11, 0);
        Check.due("up to a letter", turned("turn 3if1=1"), 3);
        sheet("sheet 00002", 0);
        sheet("sheet 000002", 6, 1);
        sheet("sheet 2;goer 00003 00003 00060", 1);
        sheet("sheet 2;goer 00003 00003 000060", 25, 1);
        sheet("sheet2;goer3 3 60;join3 3 9;stone3", 1);
        sheet("sheet 2;goer 33 60", 13, 1);
    }

    private static void words() {
        terms("WORDS (small letters, as far as these go on) of a GOER who is ON");
        for (String word : WORDS) {
            rule("turn " + word);
            rule("turn 1 if " + word + "=1");
            rule("turn " + word + "s", 5, 0);
            rule("turn " + word.substring(1), 5, 0);
            rule("turn " + word.substring(0, word.length() - 1), 5, 0);
            rule("turn " + word.toUpperCase(), 5, 0);
            rule("turn 1+" + word + word, 7, 0);
            rule("turn" + word, 0, 0);
            rule("turn 1 if" + word + "=1", 7, 0);
            rule("turn 1 if not" + word + "=1", 10, 0);
            rule("turn 1 if 1=" + word + "and 1=1", 12, 0);
        }
        for (String clause : new String[] {"goer 0 0 0", "join 0 0 0", "stone 0"}) {
            String word = clause.substring(0, clause.indexOf(' '));
            sheet("sheet 2;" + clause.substring(1), 8, 0);
            sheet("sheet 2;" + word + "s 0 0 0", 8, 0);
            sheet("sheet 2;" + clause.toUpperCase(), 8, 0);
        }
        for (char letter = 'a'; letter <= 'z'; letter++) {
            rule("turn" + letter + " 1", 0, 0);
            rule(letter + "turn 1", 0, 0);
            rule("turn 1 if" + letter + " 1=1", 7, 0);
            rule("turn " + letter, 5, 0);
            sheet("sheet" + letter + " 2", 0, 0);
            sheet("sheet 2;" + letter + "stone 1", 8, 0);
        }
        for (char digit = '0'; digit <= '9'; digit++) {
            rule("turn" + digit + "if" + digit + "=" + digit + "and" + digit + "=" + digit);
        }
        rule("turn 1 if not1=2 and[1=1]or 1=2and 1=1");
        rule("turn turn", 5, 0);
        rule("turn sheet", 5, 0);
        rule("turn 1 if if=1", 10, 0);
    }

    private static void signs() {
        terms("SIGN one of < <= = >= >.");
        String[] signs = {"<", "<=", "=", ">=", ">"};
        boolean[][] holds = {{true, false, false}, {true, true, false}, {false, true, false}, {false, true, true},
            {false, false, true}};
        for (int k = 0; k < 5; k++) {
            for (int left = 4; left <= 6; left++) {
                int want = holds[k][left - 4] ? 1 : 0;
                Check.due(left + signs[k] + "5", turned("turn 1 if " + left + signs[k] + "5"), want);
                Check.due("blanks " + signs[k], turned("turn 1 if " + left + " " + signs[k] + " 5"), want);
            }
        }
        rule("turn 1 if 1=<1", 12, 0);
        rule("turn 1 if 1=>1", 12, 0);
        rule("turn 1 if 1<>1", 12, 0);
        rule("turn 1 if 1==1", 12, 0);
        rule("turn 1 if 1<==1", 13, 0);
        rule("turn 1 if 1!=1", 11, 0);
        rule("turn 1 if 1=1=1", 13, 0);
        rule("turn 1=1", 6, 0);
    }

    private static void blanks() {
        terms("Blanks (32) stand between as one likes.");
        sheet("  sheet   2  ;  goer  3  3  60  ;  join 1  2  3  ;stone   0  ", 1);
        rule("  turn  1  +  goer  *  2  if  not  [  1  <=  2  ]  or  1  =  2  and  3  >  2  ;  turn  1  ");
        rule("turn1+goer*2if[1<=2]or 1=2and 3>2;turn1");
        sheet("she et 2", 0, 0);
        sheet("sheet 2 ;goer 1 1 1 1", 20, 0);
        rule("tu rn 1", 0, 0);
        rule("turn 1 if 1< =1", 13, 0);
        rule("turn 1 if 1> =1", 13, 0);
        for (int sign : new int[] {0, 9, 10, 13, 31, 33, 127, 160, 255}) {
            sheet("sheet" + (char) sign + "2", 5, 0);
            sheet((char) sign + "sheet 2", 0, 0);
            rule("turn" + (char) sign + "1", 4, 0);
            rule("turn 1" + (char) sign, 6, 0);
        }
    }

    private static void deep() {
        terms("[ and not lie within one another 10 deep at most");
        for (int many = 1; many <= 10; many++) {
            rule("turn 1 if " + "[".repeat(many) + "1=1" + "]".repeat(many));
            rule("turn 1 if " + "not ".repeat(many) + "1=1");
            Check.due(many + " nots", turned("turn 1 if " + "not ".repeat(many) + "1=1"), many % 2 == 0 ? 1 : 0);
        }
        rule("turn 1 if " + "not[".repeat(5) + "1=1" + "]".repeat(5));
        rule("turn 1 if " + "[".repeat(10) + "1=1" + "]".repeat(10) + " and " + "not ".repeat(10) + "1=1 or "
                + "not[".repeat(5) + "1=1" + "]".repeat(5));
        rule("turn 1 if [not 1=1 and not 1=1 and not 1=1 or [1=1] and [1=1] or [1=1] and not [1=1] and not [1=1]"
                + " or [[[[[[[[[1=1]]]]]]]]]]");
        terms("2 too deep (at the sign that opens, or the word not)");
        for (int brackets = 0; brackets <= 10; brackets++) {
            int nots = 10 - brackets;
            int place = 10 + brackets + 4 * nots;
            rule("turn 1 if " + "[".repeat(brackets) + "not ".repeat(nots) + "[1=1]", place, 2);
            rule("turn 1 if " + "not ".repeat(nots) + "[".repeat(brackets) + "not 1=1", place, 2);
        }
        rule("turn 1 if [" + "not ".repeat(9) + "1=1 and " + "not ".repeat(10) + "1=1]", 91, 2);
        rule("turn 1 if [[1=1] and " + "[".repeat(10) + "1=1", 30, 2);
        rule("turn 1 if 1=1;turn 1 if " + "[".repeat(11), 34, 2);
    }

    private static void valuesAndFacts() {
        terms("at most 60 VALUES (of SUMS) and FACTS made of a SIGN, together.");
        rule("turn 1" + "+1".repeat(59));
        rule("turn 1" + "+1".repeat(60), 125, 3);
        rule("turn goer" + "*row".repeat(59));
        rule("turn goer" + "*row".repeat(60), 246, 3);
        rule("turn 1 if 1=1" + " or 1=1".repeat(18) + ";turn 1+1");
        rule("turn 1 if 1=1" + " or 1=1".repeat(18) + ";turn 1+1+1", 13 + 126 + 10, 3);
        rule("turn 1 if 1=1" + " or 1=1".repeat(18) + " or 1=1", 13 + 126 + 6, 3);
        rule("turn 1+1 if 1=1" + " or 1=1".repeat(18) + " or 1=1", 15 + 126 + 5, 3);
        rule("turn 1+1 if 1=1" + " or 1=1".repeat(18) + ";turn 1");
        rule("turn 1+1 if 1=1" + " or 1=1".repeat(18) + ";turn 1;turn 1", 15 + 126 + 13, 3);
        rule("turn 1+1+1 if 1=1" + " or 1=1".repeat(18) + " or 1<=1", 17 + 126 + 4, 3);
        rule("turn 1 if [not[1=1]]" + " or [not[1=1]]".repeat(18) + ";turn 1;turn 1");
        Check.due("the sixtieth counts", turned("turn 0" + "+0".repeat(58) + "+3"), 3);
        terms("3 one VALUE or FACT too many (at its first byte; of a FACT at its SIGN)");
        rule("turn 1" + "+1".repeat(59) + "+ 12", 126, 3);
        rule("turn 1" + "+1".repeat(59) + "  +  column", 129, 3);
        rule("turn 1" + "+1".repeat(58) + " if 1  >= 1", 129, 3);
    }

    /** Every byte behind a whole text, and between two NUMBERS. */
    private static void faultStrange() {
        terms("0 a byte or WORD that can't stand there");
        for (int sign = 0; sign < 256; sign++) {
            boolean digit = sign >= '0' && sign <= '9';
            String text = "sheet 2" + (char) sign;
            int want = sign == ' ' ? 0 : digit ? Check.fault(6, 1) : Check.fault(sign == ';' ? 8 : 7, 0);
            Check.due("sheet 2 and byte " + sign, Check.sheet(new EdgeWalk(), text), want);
            boolean joins = "+-*/%".indexOf(sign) >= 0;
            want = digit || joins ? 0 : Check.fault(sign == ' ' || sign == ';' ? 7 : 6, 0);
            Check.due("turn 1, byte " + sign + " and 1", Check.rule(new EdgeWalk(), "turn 1" + (char) sign + "1"), want);
            boolean signs = "<=>".indexOf(sign) >= 0;
            want = signs ? 0 : digit || joins ? Check.fault(13, 0) : Check.fault(sign == ' ' ? 12 : 11, 0);
            text = "turn 1 if 1" + (char) sign + "1";
            Check.due(text + " byte " + sign, Check.rule(new EdgeWalk(), text), want);
        }
        sheet("sheet x", 6, 0);
        sheet("sheet 2;goer 0 x 0", 15, 0);
        sheet("sheet 2;goer 0 0;0", 16, 0);
        sheet("sheets 2", 0, 0);
        sheet("sheet 2;turn 1", 8, 0);
        rule("sheet 2", 0, 0);
        rule("turn foo", 5, 0);
        rule("turn 1 if 1=1 xor 1=1", 14, 0);
        rule("turn 1 then 2", 7, 0);
    }

    private static void faultEnd() {
        terms("or the end (behind the last byte)");
        String sheet = "sheet 2;goer 0 0 0;join 0 0 0;stone 0";
        for (int n = 0; n <= sheet.length(); n++) {
            String text = sheet.substring(0, n);
            boolean whole = n == 7 || n == 18 || n == 29 || n == 37;
            boolean inWord = n > 0 && !whole && Character.isLetter(sheet.charAt(n - 1))
                    && Character.isLetter(sheet.charAt(n));
            int place = inWord ? text.replace(';', ' ').lastIndexOf(' ') + 1 : n;
            int goers = n >= 18 ? 1 : 0;
            Check.due("'" + text + "'", Check.sheet(new EdgeWalk(), text), whole ? goers : Check.fault(place, 0));
        }
        sheet("sheet 2;goer 0 0   ", 19, 0);
        rule("turn 1 if 1 = ", 14, 0);
        rule("turn 1 if [1=1   ", 17, 0);
        rule("turn 1 ; ", 9, 0);
    }

    private static void faultNumber() {
        terms("1 a NUMBER of more digits, or not as told");
        sheet("sheet   123456", 8, 1);
        sheet("sheet 2;goer 0 0 000000", 17, 1);
        sheet("sheet 2;goer  4 0 0", 14, 1);
        sheet("sheet 2;join 0 0  10", 18, 1);
        rule("turn 1+ 100000", 8, 1);
        rule("turn 1 if 1 < 100000", 14, 1);
        rule("turn 1 if 100000 < 1", 10, 1);
        rule("turn 1 if [not 999999 < 1]", 15, 1);
        rule("turn " + "9".repeat(395), 5, 1);
        sheet("sheet " + "2".repeat(394), 6, 1);
        sheet("sheet 4294967298", 6, 1);
        rule("turn 4294967296", 5, 1);
    }

    private static void faultClause() {
        terms("4 one CLAUSE too many, a second sheet, another CLAUSE ahead of it, a sixth GOER (at its first byte).");
        sheet("sheet 2" + ";stone 0".repeat(39) + ";  stone 0", 322, 4);
        sheet("sheet 2" + ";stone 0".repeat(39) + ";goer 9 9 9", 320, 4);
        sheet("sheet 2;  sheet 2", 10, 4);
        sheet("   goer 9 9 9", 3, 4);
        sheet("sheet 2" + ";goer 0 0 0".repeat(5) + ";   goer 9 9 9", 66, 4);
        rule("turn 1" + ";turn 1".repeat(11) + ";  turn x", 86, 4);
    }

    private static void firstAlong() {
        terms("FAULTS, the first along the text, 1 + 8 * its place and: 0");
        sheet("sheet 7;goer x", 6, 1);
        sheet("sheet 2;goer 4 9 99", 13, 1);
        sheet("sheet 2;goer 0 9 99", 15, 1);
        sheet("sheet 2;stone 4;sheet 2", 14, 1);
        sheet("sheet 2;sheet 2;stone 4", 8, 4);
        sheet("sheet 2;x;sheet 2", 8, 0);
        sheet("sheet 2" + ";goer 0 0 0".repeat(6) + ";x", 63, 4);
        rule("turn 123456;x", 5, 1);
        rule("turn x;turn 123456", 5, 0);
        rule("turn 1 if " + "[".repeat(11) + "123456", 20, 2);
        rule("turn 1 if 123456=1 and " + "[".repeat(11), 10, 1);
        rule("turn 1" + "+1".repeat(60) + "+123456+x", 125, 3);
        rule("turn 1" + "+1".repeat(58) + "+123456+1+1", 123, 1);
        rule("turn 1" + ";turn 1".repeat(12) + "x;turn 123456", 84, 4);
    }

    private static void leastOfOnePlace() {
        terms("Of one place the least.");
        sheet("sheet 2" + ";stone 0".repeat(39) + ";", 320, 0);
        sheet("sheet 2" + ";stone 0".repeat(39) + ";x", 320, 0);
        sheet("sheet 2" + ";stone 0".repeat(39) + ";1", 320, 0);
        sheet("sheet 2 123456", 8, 0);
        sheet("123456", 0, 0);
        sheet("goers 0 0 0", 0, 0);
        rule("turn 1" + ";turn 1".repeat(11) + ";", 84, 0);
        rule("turn 1" + ";turn 1".repeat(11) + ";turns 1", 84, 0);
        rule("turn 1 123456", 7, 0);
        rule("turn 1" + "+1".repeat(59) + "+123456", 125, 1);
        rule("turn 1" + "+1".repeat(59) + "+x", 125, 0);
        rule("turn 1" + "+1".repeat(59) + "+", 125, 0);
        rule("turn 1" + "+1".repeat(59) + "=1", 124, 0);
        rule("turn 1 if " + "[".repeat(10) + "]", 20, 0);
        rule("turn 1" + "+1".repeat(57) + " if 1 x", 126, 0);
    }
}
