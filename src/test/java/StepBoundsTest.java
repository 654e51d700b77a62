/** Each sentence of WORDS, part II and promises 7 to 15 that names a bound, a wrap-around or a refusal. */
public final class StepBoundsTest {
    /** 2 to the 63rd, which is the least number there is when it has gone round. */
    private static final String LEAST = "65536*65536*65536*32768";

    public static void main(String[] args) {
        sums();
        tests();
        plainWords();
        margin();
        stoneWord();
        here();
        beenAndStep();
        division();
        roundIn64Bits();
        eachAsAllIsThen();
        turnsToTheRight();
        firstClause();
        restOfFour();
        stoneAhead();
        places();
        daysLeft();
        noFood();
        foodJustEnough();
        asItIsThen();
        stoneAtTheMargin();
        lastStep();
        goerAsked();
        goerRefused();
        joinAsked();
        stoneInAsked();
        stepBits();
        stepRefused();
        give();
        giveRefused();
        way();
        wayRefused();
        stone();
        stoneRefused();
        fold();
        foldRefused();
        undo();
        undoOfTwenty();
        undoRound();
        undoRefused();
        Check.finish();
    }

    private static void terms(String quote) {
        Check.says("Terms", quote);
    }

    private static int turned(String rule) {
        return Check.walk("sheet 5;goer 12 0 0", rule).ahead(0, 1, 1);
    }

    private static void holds(String test, boolean want) {
        Check.due(test, turned("turn 1 if " + test), want ? 1 : 0);
    }

    /** The only number from 0 to most that a WORD is of the first GOER of a SHEET. */
    private static void word(String sheet, String word, int want, int most) {
        for (int k = 0; k <= most; k++) {
            EdgeWalk walk = Check.walk(sheet, "turn 2 if " + word + " = " + k);
            int faces = walk.goer(0, 1);
            Check.due(word + " = " + k + " of " + sheet, walk.ahead(0, 1, 1), k == want ? (faces + 2) % 4 : faces);
        }
    }

    private static void sums() {
        terms("SUM: TERM { (+ or -) TERM }. TERM: VALUE { (* or / or %) VALUE }. VALUE: NUMBER");
        holds("9-3-1 = 5", true);
        holds("9-3+1 = 7", true);
        holds("1+2*3 = 7", true);
        holds("2*3+1 = 7", true);
        holds("9-2*3 = 3", true);
        holds("2*3-9 < 0", true);
        holds("16/4*2 = 8", true);
        holds("16*4/3 = 21", true);
        holds("17%5*3 = 6", true);
        holds("3*17%5 = 1", true);
        holds("17/5%2 = 1", true);
        holds("17%5/2 = 1", true);
        holds("20-17%5*3+4/2 = 16", true);
        String[] signs = {"<", "<=", "=", ">=", ">"};
        for (int k = 0; k < 5; k++) {
            for (int right = 4; right <= 6; right++) {
                boolean want = right == 5 ? k >= 1 && k <= 3 : right == 6 ? k < 2 : k > 2;
                holds("5 " + signs[k] + " 9-" + (9 - right), want);
                holds("5 " + signs[k] + " 2*" + right + "-" + right, want);
                holds("5 " + signs[k] + " 1+" + right + "*3/3-1", want);
                holds("7-2 " + signs[k] + " " + right, want);
                holds("1+2*2 " + signs[k] + " " + right + "%9", want);
            }
        }
        Check.due("turn 1+2*5", turned("turn 1+2*5"), 3);
        Check.due("turn 9-3-4", turned("turn 9-3-4"), 2);
    }

    private static void tests() {
        terms("TEST: PART { or PART }. PART: FACT { and FACT }. FACT: not FACT | [ TEST ]");
        for (int k = 0; k < 8; k++) {
            boolean a = k / 4 == 1;
            boolean b = k / 2 % 2 == 1;
            boolean c = k % 2 == 1;
            String x = a ? "2=2" : "2=3";
            String y = b ? "1<=2" : "3<=2";
            String z = c ? "4>3" : "3>4";
            holds(x + " or " + y + " or " + z, a || b || c);
            holds(x + " and " + y + " and " + z, a && b && c);
            holds(x + " or " + y + " and " + z, a || b && c);
            holds(x + " and " + y + " or " + z, a && b || c);
            holds("[" + x + " or " + y + "] and " + z, (a || b) && c);
            holds(x + " and [" + y + " or " + z + "]", a && (b || c));
            holds("not " + x, !a);
            holds("not not " + x, a);
            holds("not " + x + " and " + y, !a && b);
            holds("not " + x + " or " + y, !a || b);
            holds("not [" + x + " and " + y + "]", !(a && b));
            holds("not [" + x + " or not " + y + "] or " + z, !(a || !b) || c);
            holds(x + " and not " + y + " or not " + z, a && !b || !c);
        }
    }

    private static void plainWords() {
        terms("| WORD. WORDS (small letters, as far as these go on) of a GOER who is ON: "
                + "goer, cell, row, column, faces, food, margin");
        for (int side = 2; side <= 6; side += 2) {
            int last = side * side - 1;
            word("sheet " + side + ";goer " + last + " 0 60", "cell", last, last + 1);
            word("sheet " + side + ";goer 0 2 60", "cell", 0, 2);
            word("sheet " + side + ";goer " + (last - 1) + " 0 60", "row", side - 1, side);
            word("sheet " + side + ";goer " + (last - 1) + " 0 60", "column", side - 2, side);
            word("sheet " + side + ";goer " + (side - 1) + " 2 60", "row", 0, side);
            word("sheet " + side + ";goer " + (side - 1) + " 2 60", "column", side - 1, side);
        }
        for (int faces = 0; faces < 4; faces++) {
            word("sheet 3;goer 4 " + faces + " 60", "faces", faces, 4);
        }
        word("sheet 3;goer 4 0 0", "food", 0, 2);
        word("sheet 3;goer 4 0 60", "food", 60, 61);
        word("sheet 3;goer 4 0 60", "goer", 0, 5);
        EdgeWalk five = Check.walk("sheet 3" + ";goer 4 0 60".repeat(5), "turn goer");
        for (int g = 0; g < 5; g++) {
            Check.due("goer " + g, five.ahead(g, 1, 1), g % 4);
        }
        EdgeWalk fed = Check.walk("sheet 3;goer 4 0 60", "turn 1 if food = 99");
        fed.give(0, 20);
        fed.give(0, 18);
        Check.due("food 98", fed.ahead(0, 1, 1), 0);
        fed.give(0, 1);
        Check.due("food 99", fed.ahead(0, 1, 1), 1);
    }

    private static void eachAsAllIsThen() {
        terms("A STEP: GOERS by numbers, each by how all is then. One who is ON: (1) he turns");
        EdgeWalk comes = Check.walk("sheet 3;goer 3 1 0;goer 4 0 0", "turn 2 if here = 1");
        comes.step();
        goer(comes, 0, 4, 1);
        goer(comes, 1, 7, 2);
        EdgeWalk leaves = Check.walk("sheet 3;goer 4 1 0;goer 4 0 0", "turn 2 if here = 1");
        leaves.step();
        goer(leaves, 0, 3, 3);
        goer(leaves, 1, 1, 0);
        EdgeWalk later = Check.walk("sheet 3;goer 4 0 0;goer 3 1 0", "turn 2 if here = 1");
        later.step();
        goer(later, 0, 1, 0);
        goer(later, 1, 4, 1);
        EdgeWalk comesIn = Check.walk("sheet 2;goer 0 0 9;goer 0 1 9;goer 0 1 9;stone 1", "turn 1 if goer = 2 and here = 2");
        comesIn.step();
        Check.due("one is here with one", comesIn.goer(2, 1), 1);
        comesIn.step();
        Check.due("one who came in in this step is here", comesIn.goer(2, 1), 2);
        EdgeWalk step = Check.walk("sheet 3;goer 4 0 9;goer 4 0 9", "turn step");
        step.step();
        Check.due("the step is one more behind all", step.goer(1, 1), 0);
    }

    private static void margin() {
        terms("margin (how many CELLS there are before him, as he FACES, to the edge)");
        for (int side = 2; side <= 6; side++) {
            for (int cell = 0; cell < side * side; cell += side > 4 ? 5 : 1) {
                int row = cell / side;
                int column = cell % side;
                int[] margins = {row, side - 1 - column, side - 1 - row, column};
                for (int faces = 0; faces < 4; faces++) {
                    word("sheet " + side + ";goer " + cell + " " + faces + " 60", "margin", margins[faces], side);
                }
            }
        }
    }

    private static void stoneWord() {
        terms("stone (1 if there is one in the next CELL so, else 0)");
        int[] next = {1, 5, 7, 3};
        for (int faces = 0; faces < 4; faces++) {
            word("sheet 3;goer 4 " + faces + " 60;stone " + next[faces], "stone", 1, 2);
            word("sheet 3;goer 4 " + faces + " 60;stone 4;stone " + next[(faces + 1) % 4] + ";stone "
                    + next[(faces + 2) % 4] + ";stone " + next[(faces + 3) % 4], "stone", 0, 2);
        }
        word("sheet 3;goer 2 1 60;stone 3;stone 0;join 0 0 9;join 1 1 9;join 2 2 9;join 3 3 9", "stone", 0, 2);
        word("sheet 3;goer 3 3 60;stone 2;stone 5", "stone", 0, 2);
        word("sheet 3;goer 1 0 60;stone 7;stone 0", "stone", 0, 2);
        word("sheet 3;goer 7 2 60;stone 1;stone 8", "stone", 0, 2);
    }

    private static void here() {
        terms("here (how many others are in his CELL)");
        for (int others = 0; others <= 4; others++) {
            word("sheet 3;goer 4 0 60" + ";goer 4 1 60".repeat(others), "here", others, 5);
        }
        word("sheet 3;goer 0 0 60;goer 1 0 60;goer 8 0 60", "here", 0, 2);
        EdgeWalk gone = Check.walk("sheet 2;goer 0 3 60;goer 0 0 0;stone 1;stone 2", "turn 1 if here > 0 and goer = 0");
        Check.due("there now: he turns to 0", gone.ahead(0, 1, 1), 0);
        gone.way(1, 3);
        gone.way(0, 1);
        gone.step();
        Check.due("he stays, turned to a stone", gone.goer(0, 0), 0);
        Check.due("the other is out", gone.goer(1, 3), 1);
        Check.due("one who is out is not here", gone.ahead(0, 1, 1), gone.goer(0, 1));
        gone.step();
        Check.due("the other is lost", gone.goer(1, 3), 2);
        Check.due("one who is lost is not here", gone.ahead(0, 1, 1), gone.goer(0, 1));
    }

    private static void beenAndStep() {
        terms("been (how often he went OUT), step.");
        EdgeWalk walk = Check.walk("sheet 2;goer 0 0 60", "turn been");
        int[] been = {0, 1, 1, 2, 2, 3, 3};
        for (int k = 0; k < been.length; k++) {
            Check.due("been ahead of " + k, walk.goer(0, 5), been[k]);
            walk.step();
        }
        word("sheet 3;goer 4 0 60", "been", 0, 2);
        word("sheet 3;goer 4 0 60", "step", 0, 2);
        EdgeWalk later = Check.walk("sheet 3;goer 4 1 60;stone 5", "turn 1 if step = 3");
        Check.due("not in step 2", later.ahead(0, 3, 1), 1);
        Check.due("in step 3", later.ahead(0, 4, 1), 2);
        EdgeWalk twice = Check.walk("sheet 2;goer 0 0 60;stone 2", "turn 2 if been = 2");
        Check.steps(twice, 3);
        Check.due("in again, before a stone", twice.goer(0, 0), 0);
        twice.way(0, 0);
        Check.steps(twice, 2);
        Check.due("twice out", twice.goer(0, 5), 2);
        Check.due("by been = 2 he turns at once", twice.ahead(0, 1, 0), -1);
        twice.step();
        Check.due("and is out a third time", twice.goer(0, 5), 3);
    }

    private static void division() {
        terms("/ is towards 0, % its rest, both 0 by 0;");
        holds("7/2 = 3", true);
        holds("7%2 = 1", true);
        holds("0/5 = 0", true);
        holds("0%5 = 0", true);
        for (String zero : new String[] {"0", "00000", "goer", "faces", "been", "step", "food"}) {
            holds("7/" + zero + " = 0", true);
            holds("7%" + zero + " = 0", true);
            holds("0/" + zero + " = 0", true);
            holds("0%" + zero + " = 0", true);
            holds(LEAST + "/" + zero + " = 0", true);
            holds(LEAST + "%" + zero + " = 0", true);
            Check.due("a sum by " + zero, turned("turn 3+9/" + zero), 3);
            Check.due("a rest by " + zero, turned("turn 2+9%" + zero), 2);
        }
        for (int by = 1; by <= 9; by++) {
            long part = Long.MIN_VALUE / by;
            long rest = Long.MIN_VALUE % by;
            Check.due("least / " + by, turned("turn " + LEAST + "/" + by), (int) Math.floorMod(part, 4L));
            Check.due("least % " + by, turned("turn " + LEAST + "%" + by), (int) Math.floorMod(rest, 4L));
            holds("0-" + LEAST + "%" + by + " = " + -rest, true);
            holds(LEAST + "/" + by + "*" + by + "+" + LEAST + "%" + by + " = " + LEAST, true);
        }
        holds("99999/99999 = 1", true);
        holds("99998/99999 = 0", true);
        holds("99998%99999 = 99998", true);
    }

    private static void roundIn64Bits() {
        terms("all goes round in 64 bits.");
        holds(LEAST + " < 0", true);
        holds(LEAST + "-1 > 0", true);
        holds(LEAST + "-1+1 < 0", true);
        holds(LEAST + "+" + LEAST + " = 0", true);
        holds("0-" + LEAST + " = " + LEAST, true);
        holds(LEAST + "*2 = 0", true);
        holds("65536*65536 > 0", true);
        holds("65536*65536 = 65536", false);
        holds("65536*65536*65536*16384 > 0", true);
        holds("65536*65536*65536*65536 = 0", true);
        holds("65536*65536*65536*65536+1 = 1", true);
        long round = 99999L * 99999L * 99999L * 99999L;
        holds("99999*99999*99999*99999 < 0", round < 0);
        holds("99999*99999*99999*99999/10000%10000 = " + Math.abs(round / 10000 % 10000), round > 0);
        holds(LEAST + " < " + LEAST + "-1", true);
        holds("0-1 < 1", true);
        holds(LEAST + "-1 >= 99999*99999", true);
    }

    private static void turnsToTheRight() {
        terms("he turns as many quarters to the right (FACES 1 more, 0 behind 3)");
        for (int faces = 0; faces < 4; faces++) {
            for (int quarters = 0; quarters < 4; quarters++) {
                EdgeWalk walk = Check.walk("sheet 3;goer 4 " + faces + " 0", "turn " + quarters);
                walk.step();
                Check.due(faces + " and " + quarters, walk.goer(0, 1), (faces + quarters) % 4);
            }
        }
    }

    private static void firstClause() {
        terms("as the SUM of the RULE IN FORCE's first CLAUSE without a TEST, or whose TEST holds "
                + "(0 without; 0 without a RULE)");
        Check.due("first without", turned("turn 1;turn 2;turn 3"), 1);
        Check.due("first that holds", turned("turn 1 if 1=2;turn 2 if 1=1;turn 3"), 2);
        Check.due("behind all that don't", turned("turn 1 if 1=2;turn 2 if 1=2;turn 3"), 3);
        Check.due("none holds", turned("turn 1 if 1=2;turn 2 if 1=2;turn 3 if 1=2"), 0);
        EdgeWalk walk = Check.walk("sheet 3;goer 4 0 0", "turn 1");
        walk.force(-1);
        Check.due("without a rule", walk.ahead(0, 1, 1), 0);
        walk.force(0);
        Check.due("with it", walk.ahead(0, 1, 1), 1);
    }

    private static void restOfFour() {
        terms("divided by 4 leaves as rest (0 to 3, of SUMS below 0, too)");
        for (int k = 0; k <= 9; k++) {
            Check.due("turn " + k, turned("turn " + k), k % 4);
            Check.due("turn 0-" + k, turned("turn 0-" + k), Math.floorMod(-k, 4));
        }
        Check.due("the least", turned("turn " + LEAST), 0);
        Check.due("the least and 1", turned("turn " + LEAST + "+1"), 1);
        Check.due("the most", turned("turn " + LEAST + "-1"), 3);
        Check.due("the most less 1", turned("turn " + LEAST + "-2"), 2);
    }

    private static void goer(EdgeWalk walk, int g, int... want) {
        for (int what = 0; what < want.length; what++) {
            Check.due("goer " + g + " " + what + " in step " + walk.count(4), walk.goer(g, what), want[what]);
        }
    }

    private static void stoneAhead() {
        terms("(2) he goes on to the next CELL as he FACES, if there is no STONE (else he stays)");
        int[] next = {1, 5, 7, 3};
        for (int faces = 0; faces < 4; faces++) {
            EdgeWalk walk = Check.walk("sheet 3;goer 4 " + (faces + 1) % 4 + " 7;stone 4;stone " + next[faces], "turn 3");
            walk.step();
            goer(walk, 0, 4, faces, 7, 0, 0, 0);
            walk.stone(next[faces]);
            walk.force(-1);
            walk.step();
            goer(walk, 0, next[faces], faces, 7, 0, 0, 0);
        }
        EdgeWalk walk = Check.walk("sheet 3;goer 2 1 7;stone 3;stone 0;stone 1;stone 5");
        walk.step();
        goer(walk, 0, -1, 1, 7, 1, 0, 1);
    }

    private static int at(int side, int edge, int place) {
        int[] cells = {place, place * side + side - 1, (side - 1) * side + place, place * side};
        return cells[edge];
    }

    private static void places() {
        terms("at the edge he goes OUT over the EDGE he FACES: at the PLACE of his row, or of his column, along it");
        for (int side = 2; side <= 6; side++) {
            for (int k = 0; k < 16 * side; k++) {
                int edge = k % 4;
                int to = k / 4 % 4;
                int place = k / 16;
                EdgeWalk walk = Check.walk("sheet " + side + ";goer " + at(side, edge, place) + " " + edge
                        + " 1;join " + edge + " " + to + " 0");
                walk.step();
                goer(walk, 0, -1, edge, 1, 1, 0, 1);
                walk.step();
                goer(walk, 0, at(side, to, place), (to + 2) % 4, 0, 0, 0, 1);
            }
        }
    }

    private static void daysLeft() {
        terms("as many DAYS are left as are told of it.");
        for (int days = 0; days <= 9; days++) {
            EdgeWalk walk = Check.walk("sheet 2;goer 0 0 60;join 0 1 " + days + ";join 1 1 4");
            for (int left = days; left >= 0; left--) {
                walk.step();
                goer(walk, 0, -1, 0, 60 - days + left, 1, left, 1);
            }
            walk.step();
            goer(walk, 0, 1, 3, 59 - days, 0, 0, 1);
        }
    }

    private static void noFood() {
        terms("One who is OUT: has he no FOOD, he is LOST, for good");
        for (int days = 0; days <= 9; days += 9) {
            EdgeWalk walk = Check.walk("sheet 2;goer 0 0 0;join 0 1 " + days, "turn 0");
            walk.step();
            goer(walk, 0, -1, 0, 0, 1, days, 1);
            walk.step();
            goer(walk, 0, -1, 0, 0, 2, 0, 1);
            Check.due("no food for him", walk.give(0, 20), -1);
            Check.due("no way for him", walk.way(0, 1), -1);
            walk.fold(0, 2);
            Check.steps(walk, 30);
            goer(walk, 0, -1, 0, 0, 2, 0, 1);
            Check.due("lost", walk.count(6), 1);
        }
        EdgeWalk fed = Check.walk("sheet 2;goer 0 0 0");
        fed.step();
        fed.give(0, 1);
        fed.step();
        goer(fed, 0, 0, 2, 0, 0, 0, 1);
    }

    private static void foodJustEnough() {
        terms("else he has 1 less; are DAYS left, they are 1 less; else he comes ON");
        for (int days = 0; days <= 9; days++) {
            EdgeWalk enough = Check.walk("sheet 2;goer 0 0 " + (days + 1) + ";join 0 1 " + days);
            Check.steps(enough, days + 2);
            goer(enough, 0, 1, 3, 0, 0, 0, 1);
            EdgeWalk less = Check.walk("sheet 2;goer 0 0 " + days + ";join 0 1 " + days);
            Check.steps(less, days + 1);
            goer(less, 0, -1, 0, 0, 1, 0, 1);
            less.step();
            goer(less, 0, -1, 0, 0, 2, 0, 1);
        }
        EdgeWalk on = Check.walk("sheet 2;goer 0 1 0;stone 1");
        Check.steps(on, 50);
        goer(on, 0, 0, 1, 0, 0, 0, 0);
    }

    private static void asItIsThen() {
        terms("else he comes ON in the CELL at that PLACE along the EDGE it leads to (as it is then), FACING away from that EDGE");
        for (int to = 0; to < 4; to++) {
            EdgeWalk walk = Check.walk("sheet 3;goer 1 0 9;join 0 3 2");
            Check.steps(walk, 3);
            walk.fold(0, to);
            walk.step();
            goer(walk, 0, at(3, to, 1), (to + 2) % 4, 6, 0, 0, 1);
            EdgeWalk late = Check.walk("sheet 3;goer 1 0 9;join 0 3 2");
            Check.steps(late, 4);
            late.fold(0, to);
            goer(late, 0, 3, 1, 6, 0, 0, 1);
        }
    }

    private static void stoneAtTheMargin() {
        terms("unless there is a STONE (he stays OUT).");
        EdgeWalk walk = Check.walk("sheet 2;goer 0 0 4;join 0 1 1;stone 1");
        Check.steps(walk, 3);
        goer(walk, 0, -1, 0, 2, 1, 0, 1);
        walk.step();
        goer(walk, 0, -1, 0, 1, 1, 0, 1);
        walk.stone(1);
        walk.step();
        goer(walk, 0, 1, 3, 0, 0, 0, 1);
        EdgeWalk laid = Check.walk("sheet 2;goer 0 0 2;join 0 1 0");
        laid.step();
        laid.stone(1);
        laid.step();
        goer(laid, 0, -1, 0, 1, 1, 0, 1);
        laid.step();
        goer(laid, 0, -1, 0, 0, 1, 0, 1);
        laid.stone(1);
        laid.step();
        goer(laid, 0, -1, 0, 0, 2, 0, 1);
        EdgeWalk both = Check.walk("sheet 2;goer 0 0 9;goer 1 0 9;join 0 1 0");
        Check.steps(both, 2);
        Check.due("no stone is one who is there", both.goer(0, 0), 1);
    }

    private static EdgeWalk atStep(int step) {
        EdgeWalk walk = Check.walk("sheet 2;goer 0 1 9;stone 1", "turn 3 if step >= 999");
        Check.steps(walk, step);
        return walk;
    }

    /** No object that is used for 512 calls comes so far; this class goes on beyond them. */
    private static void lastStep() {
        terms("STEP is 1 more (999 at most by hand; STEPS that are asked go on beyond).");
        EdgeWalk walk = atStep(998);
        Check.due("998", walk.count(4), 998);
        Check.due("to 999", walk.step(), 1);
        Check.due("999", walk.count(4), 999);
        Check.due("asked, he goes out in step 999", walk.ahead(0, 1, 0), -1);
        Check.due("and comes home in 1001", walk.ahead(0, 2, 0), 0);
        Check.due("seen", walk.seen(0, 100), 1);
        Check.due("meet and home tell steps", walk.home(0), 999);
        Check.says(10, "NONE, and nothing happens, without a SHEET, or in STEP 999.");
        Twin.refused("in step 999", -1, () -> atStep(999), EdgeWalk::step);
        walk.undo();
        Check.due("undone, there is one more", walk.step(), 1);
        Check.due("other acts are done in 999", walk.give(0, 1), 10);
    }

    private static void goerAsked() {
        Check.says(7, "Of a GOER what 0: his CELL (NONE: he is not ON), 1: FACES (as he went OUT, if he is not ON), "
                + "2: FOOD, 3: 0 ON, 1 OUT, 2 LOST, 4: DAYS left (0 if he is not OUT), 5: how often he went OUT.");
        EdgeWalk walk = Twin.busy();
        goer(walk, 0, 4, 0, 10, 0, 0, 0);
        goer(walk, 1, -1, 0, 8, 1, 2, 1);
        goer(walk, 2, -1, 1, 0, 2, 0, 1);
        goer(walk, 3, -1, 0, 60, 1, 3, 1);
    }

    private static void goerRefused() {
        Check.says(7, "-2 without these.");
        int[] far = {-1, 4, 5, Integer.MIN_VALUE, Integer.MAX_VALUE};
        for (int g : far) {
            Check.due("goer " + g, Twin.busy().goer(g, 0), -2);
        }
        for (int what : new int[] {-1, 6, 7, Integer.MIN_VALUE, Integer.MAX_VALUE}) {
            Check.due("what " + what, Twin.busy().goer(0, what), -2);
        }
        Check.due("the fifth of five", Check.walk("sheet 2" + ";goer 1 0 0".repeat(5)).goer(4, 0), 1);
        Check.due("the sixth of five", Check.walk("sheet 2" + ";goer 1 0 0".repeat(5)).goer(5, 0), -2);
        Check.due("no goers", Check.walk("sheet 2").goer(0, 0), -2);
        Check.due("no sheet", new EdgeWalk().goer(0, 0), -2);
    }

    private static void joinAsked() {
        Check.says(8, "Of an EDGE what 0: at which EDGE it leads in, 1: DAYS. NONE without these, or a SHEET.");
        EdgeWalk walk = Twin.busy();
        int[] leads = {2, 0, 2, 3};
        int[] days = {3, 0, 0, 0};
        for (int edge = 0; edge < 4; edge++) {
            Check.due("leads " + edge, walk.join(edge, 0), leads[edge]);
            Check.due("days " + edge, walk.join(edge, 1), days[edge]);
            Check.due("no sheet", new EdgeWalk().join(edge, 0), -1);
            Check.due("no sheet", new EdgeWalk().join(edge, 1), -1);
        }
        for (int far : new int[] {-1, 4, Integer.MIN_VALUE, Integer.MAX_VALUE}) {
            Check.due("edge " + far, walk.join(far, 0), -1);
            Check.due("edge " + far, walk.join(far, 1), -1);
        }
        for (int what : new int[] {-1, 2, Integer.MIN_VALUE, Integer.MAX_VALUE}) {
            Check.due("what " + what, walk.join(0, what), -1);
        }
    }

    private static void stoneInAsked() {
        Check.says(9, "1 if there is a STONE in a CELL, else 0; NONE without it.");
        for (int side = 2; side <= 6; side++) {
            int last = side * side - 1;
            EdgeWalk walk = Check.walk("sheet " + side + ";stone " + last);
            Check.due("the first cell", walk.stoneIn(0), 0);
            Check.due("the last cell", walk.stoneIn(last), 1);
            Check.due("behind it", walk.stoneIn(last + 1), -1);
            Check.due("ahead of the first", walk.stoneIn(-1), -1);
            Check.due("far", walk.stoneIn(Integer.MAX_VALUE), -1);
            Check.due("far below", walk.stoneIn(Integer.MIN_VALUE), -1);
        }
        Check.due("no sheet", new EdgeWalk().stoneIn(0), -1);
        EdgeWalk smaller = Check.walk("sheet 6;stone 35");
        Check.sheet(smaller, "sheet 2");
        Check.due("a cell of the one there was", smaller.stoneIn(35), -1);
        Check.sheet(smaller, "sheet 6");
        Check.due("its stone is gone", smaller.stoneIn(35), 0);
    }

    private static void stepBits() {
        Check.says(10, "A STEP: GOERS who are ON then, as bits");
        Check.due("nobody", Check.walk("sheet 2").step(), 0);
        Check.due("all five", Check.walk("sheet 3" + ";goer 4 0 0".repeat(5)).step(), 31);
        Check.due("none of five", Check.walk("sheet 3" + ";goer 1 0 0".repeat(5)).step(), 0);
        Check.due("the last", Check.walk("sheet 3" + ";goer 1 0 0".repeat(4) + ";goer 4 0 0").step(), 16);
        Check.due("the first", Check.walk("sheet 3;goer 4 0 0" + ";goer 1 0 0".repeat(4)).step(), 1);
        EdgeWalk walk = Check.walk("sheet 3;goer 1 0 1;goer 1 0 0;goer 4 0 1");
        Check.due("out", walk.step(), 4);
        Check.due("one comes in, one is lost, one goes out", walk.step(), 1);
    }

    private static void stepRefused() {
        Check.says(10, "NONE, and nothing happens, without a SHEET");
        Twin.refused("without a sheet", -1, EdgeWalk::new, EdgeWalk::step);
        EdgeWalk walk = new EdgeWalk();
        walk.step();
        Check.due("no act", walk.count(10), 0);
        Check.due("no step", walk.count(4), 0);
    }

    private static void give() {
        terms("ACTS: a STEP; GIVE (a GOER who is not LOST has 1 to 20 more FOOD, 99 at most)");
        Check.says(11, "GIVE: FOOD then");
        for (int much = 1; much <= 20; much++) {
            EdgeWalk walk = Check.walk("sheet 2;goer 0 0 5;goer 0 0 60");
            Check.due("give " + much, walk.give(0, much), 5 + much);
            Check.due("food", walk.goer(0, 2), 5 + much);
            Check.due("the other", walk.goer(1, 2), 60);
            Check.due("an act", walk.count(10), 1);
        }
        EdgeWalk walk = Check.walk("sheet 2;goer 0 0 60");
        Check.due("80", walk.give(0, 20), 80);
        Check.due("98", walk.give(0, 18), 98);
        Check.due("99", walk.give(0, 1), 99);
        walk.undo();
        Check.due("up to 99", walk.give(0, 2), 99);
        walk.undo();
        Check.due("20 more than 98", walk.give(0, 20), 99);
        EdgeWalk busy = Twin.busy();
        Check.due("one who is out", busy.give(1, 4), 12);
    }

    private static void giveRefused() {
        Check.says(11, "NONE, and nothing happens, without these.");
        Twin.refused("0", -1, walk -> walk.give(0, 0));
        Twin.refused("21", -1, walk -> walk.give(0, 21));
        Twin.refused("-1", -1, walk -> walk.give(0, -1));
        Twin.refused("far", -1, walk -> walk.give(0, Integer.MAX_VALUE));
        Twin.refused("far below", -1, walk -> walk.give(0, Integer.MIN_VALUE));
        Twin.refused("one who is lost", -1, walk -> walk.give(2, 1));
        Twin.refused("goer 4 of 4", -1, walk -> walk.give(4, 1));
        Twin.refused("goer -1", -1, walk -> walk.give(-1, 1));
        Twin.refused("goer far", -1, walk -> walk.give(Integer.MAX_VALUE, 1));
        Twin.refused("without a sheet", -1, EdgeWalk::new, walk -> walk.give(0, 1));
    }

    private static void way() {
        terms("WAY (a GOER who is ON FACES another way)");
        Check.says(12, "WAY: how he FACED");
        for (int faces = 0; faces < 4; faces++) {
            for (int to = 0; to < 4; to++) {
                EdgeWalk walk = Check.walk("sheet 2;goer 0 " + faces + " 5");
                Check.due(faces + " to " + to, walk.way(0, to), faces == to ? -1 : faces);
                Check.due("faces", walk.goer(0, 1), to);
                Check.due("acts", walk.count(10), faces == to ? 0 : 1);
            }
        }
    }

    private static void wayRefused() {
        Check.says(12, "NONE, and nothing happens, without these (another way).");
        Twin.refused("the same way", -1, walk -> walk.way(0, 0));
        Twin.refused("way 4", -1, walk -> walk.way(0, 4));
        Twin.refused("way -1", -1, walk -> walk.way(0, -1));
        Twin.refused("way far", -1, walk -> walk.way(0, Integer.MAX_VALUE));
        Twin.refused("one who is out", -1, walk -> walk.way(1, 1));
        Twin.refused("one who is lost", -1, walk -> walk.way(2, 2));
        Twin.refused("goer 4 of 4", -1, walk -> walk.way(4, 1));
        Twin.refused("goer -1", -1, walk -> walk.way(-1, 1));
        Twin.refused("goer far", -1, walk -> walk.way(Integer.MIN_VALUE, 1));
        Twin.refused("without a sheet", -1, EdgeWalk::new, walk -> walk.way(0, 1));
    }

    private static void stone() {
        terms("STONE (in a CELL: there is one, if there was none, none, if there was one)");
        Check.says(13, "STONE: 1 if there is one then, else 0");
        for (int side = 2; side <= 6; side++) {
            EdgeWalk walk = Check.walk("sheet " + side + ";goer 0 0 0");
            int cells = side * side;
            for (int cell = 0; cell < cells; cell++) {
                Check.due("laid", walk.stone(cell), 1);
            }
            Check.due("in every cell", walk.count(8), cells);
            for (int cell = 0; cell < cells; cell++) {
                Check.due("taken", walk.stone(cell), 0);
                Check.due("none", walk.stoneIn(cell), 0);
            }
            Check.due("in none", walk.count(8), 0);
        }
    }

    private static void stoneRefused() {
        Check.says(13, "NONE, and nothing happens, without that CELL.");
        Twin.refused("cell 9 of 9", -1, walk -> walk.stone(9));
        Twin.refused("cell -1", -1, walk -> walk.stone(-1));
        Twin.refused("far", -1, walk -> walk.stone(Integer.MAX_VALUE));
        Twin.refused("far below", -1, walk -> walk.stone(Integer.MIN_VALUE));
        Twin.refused("cell 36 of 36", -1, () -> Check.walk("sheet 6;goer 0 0 0"), walk -> walk.stone(36));
        Twin.refused("without a sheet", -1, EdgeWalk::new, walk -> walk.stone(0));
    }

    private static void fold() {
        terms("FOLD (an EDGE leads in at another EDGE; DAYS stay).");
        Check.says(14, "FOLD: at which EDGE it led in");
        for (int edge = 0; edge < 4; edge++) {
            for (int k = 0; k < 16; k++) {
                int led = k / 4;
                int to = k % 4;
                EdgeWalk walk = Check.walk("sheet 2;join " + edge + " " + led + " 7");
                Check.due("fold", walk.fold(edge, to), led == to ? -1 : led);
                Check.due("leads", walk.join(edge, 0), to);
                Check.due("days", walk.join(edge, 1), 7);
                Check.due("another edge", walk.join((edge + 1) % 4, 0), (edge + 1) % 4);
                Check.due("acts", walk.count(10), led == to ? 0 : 1);
            }
        }
    }

    private static void foldRefused() {
        Check.says(14, "NONE, and nothing happens, without these (another one), or a SHEET.");
        Twin.refused("where it leads now", -1, walk -> walk.fold(0, 2));
        Twin.refused("itself, where it leads", -1, walk -> walk.fold(3, 3));
        Twin.refused("edge 4", -1, walk -> walk.fold(4, 0));
        Twin.refused("edge -1", -1, walk -> walk.fold(-1, 0));
        Twin.refused("edge far", -1, walk -> walk.fold(Integer.MAX_VALUE, 0));
        Twin.refused("other 4", -1, walk -> walk.fold(0, 4));
        Twin.refused("other -1", -1, walk -> walk.fold(0, -1));
        Twin.refused("other far", -1, walk -> walk.fold(0, Integer.MIN_VALUE));
        Twin.refused("without a sheet", -1, EdgeWalk::new, walk -> walk.fold(0, 1));
    }

    private static void undo() {
        Check.says(15, "The last ACT is UNDONE: how many more can be");
        Twin.Call[] acts = {EdgeWalk::step, walk -> walk.give(0, 7), walk -> walk.give(1, 20), walk -> walk.way(0, 3),
            walk -> walk.stone(0), walk -> walk.stone(6), walk -> walk.fold(0, 1), walk -> walk.fold(3, 0)};
        for (int k = 0; k < acts.length; k++) {
            EdgeWalk walk = Twin.busy();
            acts[k].of(walk);
            Check.due("acts behind act " + k, walk.count(10), 6);
            Check.due("undo act " + k, walk.undo(), 5);
            Twin.same("act " + k + " undone", Twin.busy(), walk);
        }
        EdgeWalk lost = Check.walk("sheet 2;goer 0 0 0");
        Check.steps(lost, 2);
        Check.due("one is lost", lost.count(6), 1);
        Check.due("undone", lost.undo(), 1);
        goer(lost, 0, -1, 0, 0, 1, 0, 1);
        Check.due("undone", lost.undo(), 0);
        goer(lost, 0, 0, 0, 0, 0, 0, 0);
    }

    private static void undoOfTwenty() {
        terms("The last 20 can be UNDONE, the last first.");
        for (int many = 19; many <= 22; many++) {
            EdgeWalk walk = Check.walk("sheet 5;goer 12 0 0");
            for (int k = 0; k < many; k++) {
                walk.stone(k);
                Check.due("acts", walk.count(10), Math.min(20, k + 1));
            }
            int can = Math.min(20, many);
            for (int k = 1; k <= can; k++) {
                Check.due("undone of " + many, walk.undo(), can - k);
                Check.due("the last first", walk.stoneIn(many - k), 0);
                Check.due("the one before not yet", walk.stoneIn(many - k - 1), many - k - 1 < 0 ? -1 : 1);
            }
            Check.due("no more", walk.undo(), -1);
            Check.due("what was before stays", walk.count(8), many - can);
        }
    }

    /** ACTS and UNDONE ones by turns, beyond twenty, so that what is kept goes round. */
    private static void undoRound() {
        terms("The last 20 can be UNDONE, the last first.");
        EdgeWalk walk = Check.walk("sheet 6;goer 12 0 0");
        int laid = 0;
        for (int turn = 0; turn < 8; turn++) {
            for (int k = 0; k < 7; k++) {
                walk.stone(laid);
                laid++;
            }
            for (int k = 0; k < 3; k++) {
                walk.undo();
                laid--;
            }
            Check.due("stones", walk.count(8), laid);
            Check.due("acts", walk.count(10), Math.min(17, laid));
        }
        for (int left = 16; left >= 0; left--) {
            Check.due("undone", walk.undo(), left);
            laid--;
            Check.due("gone", walk.stoneIn(laid), 0);
            Check.due("the one before", walk.stoneIn(laid - 1), 1);
        }
        Check.due("no more", walk.undo(), -1);
        Check.due("15 stay", walk.count(8), 15);
    }

    private static void undoRefused() {
        Check.says(15, "NONE, and nothing happens: none can.");
        Twin.refused("without a sheet", -1, EdgeWalk::new, EdgeWalk::undo);
        Twin.refused("behind a sheet", -1, () -> {
            EdgeWalk walk = Twin.busy();
            walk.sheet();
            return walk;
        }, EdgeWalk::undo);
        Twin.refused("behind an image", -1, () -> {
            EdgeWalk walk = Twin.busy();
            walk.back(2);
            return walk;
        }, EdgeWalk::undo);
        Twin.refused("all undone", -1, () -> {
            EdgeWalk walk = Twin.busy();
            for (int k = 0; k < 5; k++) {
                walk.undo();
            }
            return walk;
        }, EdgeWalk::undo);
        Twin.refused("no acts: force, seed, note, image, feed", -1, () -> {
            EdgeWalk walk = Check.walk("sheet 2;goer 0 0 0", "turn 1");
            walk.seed(5);
            walk.note(0, 0, 0);
            walk.image(1);
            walk.feed(0, 0, 0, 0, 0);
            return walk;
        }, EdgeWalk::undo);
    }
}
