/** Whether a call leaves all as it was: two objects are made alike, and one of them is asked it. */
final class Twin {
    interface Made {
        EdgeWalk make();
    }

    interface Call {
        int of(EdgeWalk walk);
    }

    private Twin() {
    }

    /** GOERS ON, OUT and LOST, five ACTS, two NOTES, three RULES, two IMAGES, a SHEET on the TAPE. */
    static EdgeWalk busy() {
        EdgeWalk walk = Check.walk(
                "sheet 3;goer 8 3 7;goer 1 0 9;goer 2 1 0;goer 4 0 60;stone 6;join 0 2 3;join 1 3 0",
                "turn 1 if stone = 1", "turn step", "turn 3 - goer");
        walk.seed(77);
        walk.image(0);
        walk.note(0, 3, 4);
        walk.note(1, 1, -1);
        walk.step();
        walk.give(0, 3);
        walk.image(2);
        walk.stone(3);
        walk.fold(1, 0);
        walk.step();
        Check.tape(walk, "sheet 2;goer 3 1 5;stone 0");
        return walk;
    }

    /** The call is answered so, and nothing happens. */
    static void refused(String what, int want, Made made, Call call) {
        EdgeWalk untouched = made.make();
        EdgeWalk asked = made.make();
        Check.due(what, call.of(asked), want);
        same(what, untouched, asked);
    }

    static void refused(String what, int want, Call call) {
        refused(what, want, Twin::busy, call);
    }

    /** All that can be asked, undone, gone back to and read from the TAPE; both are used up by it. */
    static void same(String what, EdgeWalk a, EdgeWalk b) {
        sameCells(what, a, b);
        sameGuesses(what, a, b);
        sameRules(what, a, b);
        sameTime(what, a, b);
        int left = a.count(10);
        for (int k = 0; k < left; k++) {
            Check.due(what + ": undo", b.undo(), a.undo());
            sameTime(what + ": undone", a, b);
        }
        for (int k = 0; k < 4; k++) {
            Check.due(what + ": back " + k, b.back(k), a.back(k));
            sameTime(what + ": back " + k, a, b);
        }
        Check.due(what + ": the text on the TAPE", b.sheet(), a.sheet());
        sameTime(what + ": the SHEET on the TAPE", a, b);
    }

    private static void sameCells(String what, EdgeWalk a, EdgeWalk b) {
        for (int cell = 0; cell < a.count(0) * a.count(0); cell++) {
            Check.due(what + ": stoneIn " + cell, b.stoneIn(cell), a.stoneIn(cell));
        }
        for (int k = 0; k < 8; k++) {
            Check.due(what + ": join", b.join(k / 2, k % 2), a.join(k / 2, k % 2));
        }
        for (int k = 0; k < 30; k++) {
            Check.due(what + ": goer " + k / 6 + " " + k % 6, b.goer(k / 6, k % 6), a.goer(k / 6, k % 6));
        }
    }

    private static void sameGuesses(String what, EdgeWalk a, EdgeWalk b) {
        for (int k = 0; k < 2; k++) {
            Check.due(what + ": ruled", b.ruled(k), a.ruled(k));
            Check.due(what + ": look", b.look(3, k), a.look(3, k));
            Check.due(what + ": gusts", b.gusts(3, 5, 60, k), a.gusts(3, 5, 60, k));
        }
        for (int k = -1; k < 4; k++) {
            Check.due(what + ": folds", b.folds(k), a.folds(k));
        }
    }

    private static void sameRules(String what, EdgeWalk a, EdgeWalk b) {
        int inForce = a.count(3);
        for (int k = -1; k <= 6; k++) {
            Check.due(what + ": force " + k, b.force(k), a.force(k));
            Check.due(what + ": ahead by " + k, b.ahead(0, 3, 0), a.ahead(0, 3, 0));
            Check.due(what + ": facing by " + k, b.ahead(3, 3, 1), a.ahead(3, 3, 1));
        }
        a.force(inForce);
        b.force(inForce);
    }

    private static void sameTime(String what, EdgeWalk a, EdgeWalk b) {
        for (int k = 0; k <= 12; k++) {
            Check.due(what + ": count " + k, b.count(k), a.count(k));
        }
        for (int k = 0; k < 12; k++) {
            Check.due(what + ": goer " + k / 3 + " " + k % 3, b.goer(k / 3, k % 3), a.goer(k / 3, k % 3));
        }
    }
}
