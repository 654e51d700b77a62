/** Each sentence of promises 1 to 6 that names a bound, a refusal, or what stays. */
public final class TapeBoundsTest {
    public static void main(String[] args) {
        lastCall();
        newObject();
        nothingShared();
        feedOrder();
        feedBehind();
        feedFull();
        end();
        endRefused();
        sheetCountsGoers();
        sheetEmptiesTape();
        sheetInPlace();
        sheetLeaves();
        sheetRefused();
        ruleNumbers();
        ruleRefused();
        ruleFull();
        force();
        forceRefused();
        Check.finish();
    }

    private static void lastCall() {
        Check.says("What it is", "An object is used for at most 512 calls after it has been made");
        EdgeWalk walk = new EdgeWalk();
        walk.feed(0x73686565, 0x7420323b, 0x676f6572, 0x20332031, 0x20350000);
        walk.end(18);
        walk.sheet();
        for (int call = 4; call < 512; call++) {
            int food = walk.give(0, 1);
            if (call == 511) {
                Check.due("call 511", food, 99);
            }
        }
        Check.due("call 512", walk.undo(), 19);
    }

    private static void newObject() {
        Check.says(1, "No SHEET, no RULES, none IN FORCE.");
        EdgeWalk walk = new EdgeWalk();
        Check.due("side", walk.count(0), 0);
        Check.due("goers", walk.count(1), 0);
        Check.due("no sheet", walk.step(), -1);
        Check.due("rules", walk.count(2), 0);
        Check.due("no rule 0", walk.force(0), -2);
        Check.due("in force", walk.count(3), -1);
        Check.due("none was in force", walk.force(-1), -1);
    }

    private static void nothingShared() {
        Check.says(1, "No SHEET, no RULES, none IN FORCE.");
        EdgeWalk first = Twin.busy();
        Twin.same("a new object beside another", new EdgeWalk(), new EdgeWalk());
        EdgeWalk second = new EdgeWalk();
        Check.due("side", second.count(0), 0);
        Check.due("rules", second.count(2), 0);
        Check.due("x", second.count(11), 0);
        Check.due("bytes", second.count(12), 0);
        Check.due("no image", second.back(0), -1);
        Twin.same("the other", Twin.busy(), first);
    }

    private static void feedOrder() {
        Check.says(2, "Twenty bytes come behind the TAPE, of each number the highest first: how many it has");
        EdgeWalk walk = new EdgeWalk();
        Check.due("twenty", walk.feed(0x73686565, 0x74203220, 0x3b73746f, 0x6e652033, 0x20202020), 20);
        Check.due("read in order", walk.sheet(), 0);
        Check.due("side", walk.count(0), 2);
        Check.due("stone", walk.stoneIn(3), 1);
        int[] high = {0x80ffffff, 0xffffffff, 0x00808080};
        for (int number : high) {
            walk = new EdgeWalk();
            Check.tape(walk, "sheet 2;");
            walk.feed(number, number, number, number, number);
            Check.due("a byte that is no sign", walk.sheet(), Check.fault(8, 0));
        }
        walk = new EdgeWalk();
        walk.feed(0x20202020, 0x20202020, 0x20202020, 0x20202020, 0x202020a0);
        Check.due("160 is no blank", walk.sheet(), Check.fault(19, 0));
    }

    private static void feedBehind() {
        Check.says(2, "Twenty bytes come behind the TAPE");
        EdgeWalk walk = new EdgeWalk();
        Check.tape(walk, "sheet 2;sto");
        Check.due("behind eleven", walk.feed(0x6e652030, 0x20202020, 0x20202020, 0x20202020, 0x2020203b), 31);
        walk.end(30);
        Check.due("one text", walk.sheet(), 0);
        Check.due("stone 0", walk.stoneIn(0), 1);
        Check.tape(walk, "sheet 2;stone 3");
        walk.end(7);
        Check.due("behind what was left", walk.feed(0x20202020, 0x20202020, 0x20202020, 0x20202020, 0x20202020), 27);
        Check.due("what was cut off is gone", walk.sheet(), 0);
        Check.due("no stone 3", walk.stoneIn(3), 0);
    }

    private static EdgeWalk taped(int bytes) {
        EdgeWalk walk = new EdgeWalk();
        Check.tape(walk, " ".repeat(bytes - 7) + "sheet 4");
        return walk;
    }

    private static void feedFull() {
        Check.says(2, "NONE, and none comes, if it would have more than 400.");
        Check.due("just 400", taped(380).feed(0, 0, 0, 0, 0), 400);
        for (int bytes = 381; bytes <= 400; bytes++) {
            int had = bytes;
            Twin.refused("with " + bytes, -1, () -> taped(had), walk -> walk.feed(0, 0, 0, 0, 0));
        }
        EdgeWalk walk = taped(400);
        Check.due("far numbers", walk.feed(Integer.MIN_VALUE, Integer.MAX_VALUE, -1, 1, 0), -1);
        Check.due("400", walk.count(12), 400);
        Check.due("its text", walk.sheet(), 0);
        Check.due("its side", walk.count(0), 4);
        Check.due("room again", walk.feed(0, 0, 0, 0, 0), 20);
    }

    private static void end() {
        Check.says(3, "The TAPE has its first n bytes alone: n");
        String text = "sheet 3;stone 1;stone 2";
        for (int n = 0; n <= text.length(); n++) {
            EdgeWalk walk = new EdgeWalk();
            Check.tape(walk, text);
            Check.due("end " + n, walk.end(n), n);
            Check.due("bytes", walk.count(12), n);
            EdgeWalk same = new EdgeWalk();
            Check.due("the text", walk.sheet(), Check.sheet(same, text.substring(0, n)));
            Check.due("stones", walk.count(8), same.count(8));
        }
    }

    private static void endRefused() {
        Check.says(3, "NONE, and nothing happens, if it has not so many, or n is below 0.");
        int bytes = Twin.busy().count(12);
        Twin.refused("one more", -1, walk -> walk.end(bytes + 1));
        Twin.refused("below 0", -1, walk -> walk.end(-1));
        Twin.refused("far below", -1, walk -> walk.end(Integer.MIN_VALUE));
        Twin.refused("far beyond", -1, walk -> walk.end(Integer.MAX_VALUE));
        Twin.refused("400 of fewer", -1, walk -> walk.end(400));
        Twin.refused("1 of none", -1, EdgeWalk::new, walk -> walk.end(1));
        Twin.refused("401 of 400", -1, () -> taped(400), walk -> walk.end(401));
        EdgeWalk cut = Twin.busy();
        cut.end(7);
        Check.due("what was cut off does not come back", cut.end(8), -1);
    }

    private static void sheetCountsGoers() {
        Check.says(4, "how many GOERS");
        for (int many = 0; many <= 5; many++) {
            EdgeWalk walk = new EdgeWalk();
            Check.due(many + " goers", Check.sheet(walk, "sheet 2" + ";goer 0 0 0".repeat(many)), many);
            Check.due("counted", walk.count(1), many);
            Check.due("the last", walk.goer(many - 1, 0), many == 0 ? -2 : 0);
            Check.due("one more", walk.goer(many, 0), -2);
        }
    }

    private static void sheetEmptiesTape() {
        Check.says(4, "The TAPE, which is empty then, is the SHEET");
        EdgeWalk walk = new EdgeWalk();
        Check.sheet(walk, "sheet 2");
        Check.due("bytes", walk.count(12), 0);
        Check.due("nothing is read twice", walk.sheet(), Check.fault(0, 0));
        Check.due("the sheet stays", walk.count(0), 2);
        Check.due("none to end at", walk.end(1), -1);
    }

    private static void sheetInPlace() {
        Check.says(4, "is the SHEET in place of the one there was (no NOTES, nothing to be UNDONE;");
        EdgeWalk walk = Twin.busy();
        walk.force(-1);
        Check.due("sheet", Check.sheet(walk, "sheet 2;goer 1 3 2;goer 2 0 1"), 2);
        Check.due("side", walk.count(0), 2);
        Check.due("goers", walk.count(1), 2);
        Check.due("step", walk.count(4), 0);
        Check.due("all on", walk.count(5), 3);
        Check.due("nobody lost", walk.count(6), 0);
        Check.due("stones", walk.count(8), 0);
        Check.due("notes", walk.count(9), 0);
        Check.due("acts", walk.count(10), 0);
        Check.due("undo", walk.undo(), -1);
        for (int edge = 0; edge < 4; edge++) {
            Check.due("join", walk.join(edge, 0), edge);
            Check.due("days", walk.join(edge, 1), 0);
        }
        for (int g = 0; g < 2; g++) {
            Check.due("been", walk.goer(g, 5), 0);
            Check.due("days left", walk.goer(g, 4), 0);
        }
        Check.due("no third", walk.goer(2, 0), -2);
        Check.due("no cell 4", walk.stoneIn(4), -1);
        Check.due("without notes all foldings fit", walk.folds(-1), 256);
        Check.due("from the new begin", walk.ruled(0), 4);
    }

    private static void sheetLeaves() {
        Check.says(4, "the RULE IN FORCE and x stay)");
        EdgeWalk walk = Twin.busy();
        walk.force(2);
        Check.due("sheet", walk.sheet(), 1);
        Check.due("in force", walk.count(3), 2);
        Check.due("x", walk.count(11), 77);
        Check.due("rules", walk.count(2), 3);
        walk.step();
        Check.due("he turns by it", walk.goer(0, 1), 0);
        Check.due("an image stays", walk.back(2), 1);
        Check.due("with its sheet", walk.count(0), 3);
    }

    private static EdgeWalk emptied() {
        EdgeWalk walk = Twin.busy();
        walk.end(0);
        return walk;
    }

    private static void sheetRefused() {
        Check.says(4, "-2 - its FAULT, and all stays.");
        Check.due("the least FAULT", Check.sheet(new EdgeWalk(), ""), -3);
        Twin.refused("no text", Check.fault(0, 0), TapeBoundsTest::emptied, EdgeWalk::sheet);
        Twin.refused("in the last number", Check.fault(25, 1), TapeBoundsTest::emptied,
                walk -> Check.sheet(walk, "sheet 2;join 3 0 1;stone 4"));
        Twin.refused("at the end", Check.fault(27, 0), TapeBoundsTest::emptied,
                walk -> Check.sheet(walk, "sheet 6;stone 1;join 0 1 9;"));
        Twin.refused("a sixth goer", Check.fault(63, 4), TapeBoundsTest::emptied,
                walk -> Check.sheet(walk, "sheet 5" + ";goer 1 1 1".repeat(6)));
        Twin.refused("not a byte of it", Check.fault(7, 0), TapeBoundsTest::emptied,
                walk -> Check.sheet(walk, "sheet 6,goer 0 0 0"));
        Twin.refused("without a sheet before", Check.fault(6, 1), EdgeWalk::new, walk -> Check.sheet(walk, "sheet 7"));
    }

    private static void ruleNumbers() {
        Check.says(5, "The TAPE, which is empty then, is a RULE: its number; -2 - its FAULT");
        EdgeWalk walk = new EdgeWalk();
        for (int k = 0; k < 6; k++) {
            Check.due("refused ahead of " + k, Check.rule(walk, "turn " + k + ";"), Check.fault(7, 0));
            Check.due("the tape is empty", walk.count(12), 0);
            Check.due("rules", walk.count(2), k);
            Check.due("rule " + k, Check.rule(walk, "turn " + k), k);
            Check.due("the tape is empty", walk.count(12), 0);
            Check.due("rules", walk.count(2), k + 1);
            Check.due("none is in force by that", walk.count(3), -1);
        }
        Check.sheet(walk, "sheet 3;goer 4 0 0");
        for (int k = 0; k < 6; k++) {
            walk.force(k);
            Check.due("by rule " + k, walk.ahead(0, 1, 1), k % 4);
        }
    }

    private static void ruleRefused() {
        Check.says(5, "-2 - its FAULT");
        Check.due("the least FAULT", Check.rule(new EdgeWalk(), ""), -3);
        Twin.refused("no text", Check.fault(0, 0), TapeBoundsTest::emptied, EdgeWalk::rule);
        Twin.refused("the last byte", Check.fault(13, 0), TapeBoundsTest::emptied,
                walk -> Check.rule(walk, "turn 1 if 1=1]"));
        Twin.refused("behind a whole clause", Check.fault(7, 0), TapeBoundsTest::emptied,
                walk -> Check.rule(walk, "turn 3;;turn 2"));
    }

    private static EdgeWalk sixRules(String onTape) {
        EdgeWalk walk = Twin.busy();
        for (int k = 3; k < 6; k++) {
            Check.rule(walk, "turn " + k);
        }
        Check.tape(walk, onTape);
        return walk;
    }

    private static void ruleFull() {
        Check.says(5, "NONE, and nothing happens: there are 6.");
        String sheet = "sheet 2;goer 1 1 1";
        Twin.refused("a seventh", -1, () -> sixRules("turn 1"), EdgeWalk::rule);
        Twin.refused("a text with a fault", -1, () -> sixRules(sheet), EdgeWalk::rule);
        Twin.refused("no text", -1, () -> sixRules(""), EdgeWalk::rule);
        EdgeWalk walk = sixRules(sheet);
        walk.rule();
        Check.due("the tape is read by sheet then", walk.sheet(), 1);
        Check.due("with a new sheet, too", Check.rule(walk, "turn 1"), -1);
        walk.back(0);
        Check.due("in an image, too", walk.rule(), -1);
        Check.due("six", walk.count(2), 6);
    }

    private static void force() {
        Check.says(6, "A RULE is IN FORCE (NONE: none): which was");
        EdgeWalk walk = sixRules("");
        int was = 0;
        for (int next : new int[] {5, 5, -1, -1, 0, 3}) {
            Check.due("force " + next, walk.force(next), was);
            Check.due("in force", walk.count(3), next);
            was = next;
        }
        Check.due("no act", walk.count(10), 5);
        Check.due("without a sheet", new EdgeWalk().force(-1), -1);
    }

    private static void forceRefused() {
        Check.says(6, "-2, and nothing happens, if there is none such.");
        Twin.refused("the fourth of three", -2, walk -> walk.force(3));
        Twin.refused("-2", -2, walk -> walk.force(-2));
        Twin.refused("far below", -2, walk -> walk.force(Integer.MIN_VALUE));
        Twin.refused("far beyond", -2, walk -> walk.force(Integer.MAX_VALUE));
        Twin.refused("the seventh of six", -2, () -> sixRules(""), walk -> walk.force(6));
        Twin.refused("the first of none", -2, EdgeWalk::new, walk -> walk.force(0));
    }
}
