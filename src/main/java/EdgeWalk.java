/**
 * Goers who walk off a sheet of cells and come in again at another margin.
 * The words in capitals are those of the document.
 */
public final class EdgeWalk {
    public static final int NONE = -1;

    private static final int NO_ANSWER = -2;
    private static final int NOT_ASKED_SO = -3;

    private static final int MOST_BYTES = 400;
    private static final int MOST_CELLS = 36;
    private static final int MOST_GOERS = 5;
    private static final int EDGES = 4;
    private static final int MOST_RULES = 6;
    private static final int MOST_IMAGES = 4;
    private static final int LAST_STEP = 999;
    private static final int LAST_NOTED = 60;
    private static final int MOST_FOOD = 99;
    private static final int FAR_LOOK = 200;
    private static final int RING_STEPS = 60;
    private static final int FOLDINGS = 256;
    private static final int TWOS = 16;

    private static final int ON = 0;
    private static final int OUT = 1;
    private static final int LOST = 2;

    private final Text tape = new Text();
    private final SheetReader sheetReader = new SheetReader();
    private final RuleReader ruleReader = new RuleReader();
    private final Rule[] rules = new Rule[MOST_RULES];
    private int ruleCount = 0;
    private int inForce = NONE;
    private int x = 0;
    private final World told = new World();
    private final World now = new World();
    private final World work = new World();
    private final Notes notes = new Notes();
    private final History history = new History();
    private final Image[] images = new Image[MOST_IMAGES];
    private final Draws draws = new Draws();
    private final int[] track = new int[(RING_STEPS + 1) * MOST_GOERS];
    private final int[] tally = new int[MOST_CELLS];
    private final int[] otherTally = new int[TWOS];

    public EdgeWalk() {
        for (int k = 0; k < MOST_IMAGES; k++) {
            images[k] = new Image();
        }
    }

    public int feed(int a, int b, int c, int d, int e) {
        if (!tape.hasRoom(20)) {
            return NONE;
        }
        tape.append(a);
        tape.append(b);
        tape.append(c);
        tape.append(d);
        tape.append(e);
        return tape.length();
    }

    public int end(int n) {
        if (!within(n, 0, tape.length())) {
            return NONE;
        }
        tape.cutTo(n);
        return n;
    }

    public int sheet() {
        int fault = sheetReader.read(tape, work);
        tape.cutTo(0);
        if (fault != 0) {
            return NO_ANSWER - fault;
        }
        told.copyFrom(work);
        now.copyFrom(work);
        notes.clear();
        history.clear();
        return goers();
    }

    public int rule() {
        if (ruleCount >= MOST_RULES) {
            return NONE;
        }
        int fault = ruleReader.read(tape);
        tape.cutTo(0);
        if (fault != 0) {
            return NO_ANSWER - fault;
        }
        rules[ruleCount] = ruleReader.made();
        ruleCount++;
        return ruleCount - 1;
    }

    public int force(int rule) {
        if (!within(rule, NONE, ruleCount - 1)) {
            return NO_ANSWER;
        }
        int was = inForce;
        inForce = rule;
        return was;
    }

    public int goer(int goer, int what) {
        if (!isGoer(goer) || !within(what, 0, 5)) {
            return NO_ANSWER;
        }
        return now.of(goer, what);
    }

    public int join(int edge, int what) {
        if (!hasSheet() || !isEdge(edge) || !within(what, 0, 1)) {
            return NONE;
        }
        return now.get((what == 0 ? World.LEADS : World.DAYS) + edge);
    }

    public int stoneIn(int cell) {
        if (!isCell(cell)) {
            return NONE;
        }
        return now.get(World.STONES + cell);
    }

    public int step() {
        if (!hasSheet() || now.get(World.STEP) >= LAST_STEP) {
            return NONE;
        }
        history.keep(now);
        now.pass(ruleInForce());
        return now.bitsOf(ON);
    }

    public int give(int goer, int much) {
        if (!isGoer(goer) || now.of(goer, World.STATE) == LOST || !within(much, 1, 20)) {
            return NONE;
        }
        history.keep(now);
        int food = Math.min(MOST_FOOD, now.of(goer, World.FOOD) + much);
        now.put(goer, World.FOOD, food);
        return food;
    }

    public int way(int goer, int faces) {
        if (!isOn(goer) || !isEdge(faces) || now.of(goer, World.FACES) == faces) {
            return NONE;
        }
        history.keep(now);
        int faced = now.of(goer, World.FACES);
        now.put(goer, World.FACES, faces);
        return faced;
    }

    public int stone(int cell) {
        if (!isCell(cell)) {
            return NONE;
        }
        history.keep(now);
        now.turnStone(cell);
        return now.get(World.STONES + cell);
    }

    public int fold(int edge, int other) {
        if (!hasSheet() || !isEdge(edge) || !isEdge(other) || now.get(World.LEADS + edge) == other) {
            return NONE;
        }
        history.keep(now);
        int led = now.get(World.LEADS + edge);
        now.set(World.LEADS + edge, other);
        return led;
    }

    public int undo() {
        return history.goBack(now);
    }

    public int ahead(int goer, int n, int what) {
        if (!isGoer(goer) || !within(n, 0, 100) || !within(what, 0, 2)) {
            return NO_ANSWER;
        }
        restart();
        walkOn(n, ruleInForce());
        return work.of(goer, what);
    }

    public int home(int goer) {
        if (!isGoer(goer)) {
            return NONE;
        }
        restart();
        for (int k = 0; k < FAR_LOOK; k++) {
            if (work.isOn(goer)) {
                return work.get(World.STEP);
            }
            work.pass(ruleInForce());
        }
        return NO_ANSWER;
    }

    public int gone(int n) {
        if (!hasSheet() || !within(n, 0, 100)) {
            return NONE;
        }
        restart();
        walkOn(n, ruleInForce());
        return work.bitsOf(LOST);
    }

    public int leastFood(int goer, int n) {
        if (!isGoer(goer) || !within(n, 1, 100)) {
            return NONE;
        }
        for (int food = 0; food <= 60; food++) {
            restart();
            work.put(goer, World.FOOD, food);
            for (int k = 0; k < n && work.of(goer, World.STATE) != LOST; k++) {
                work.pass(ruleInForce());
            }
            if (work.of(goer, World.STATE) != LOST) {
                return food;
            }
        }
        return NO_ANSWER;
    }

    public int meet(int one, int other) {
        if (!isGoer(one) || !isGoer(other) || one == other) {
            return NONE;
        }
        restart();
        for (int k = 0; k < FAR_LOOK; k++) {
            boolean bothOn = work.isOn(one) && work.isOn(other);
            if (bothOn && work.of(one, World.CELL) == work.of(other, World.CELL)) {
                return work.get(World.STEP);
            }
            work.pass(ruleInForce());
        }
        return NO_ANSWER;
    }

    public int shortest(int goer, int cell) {
        if (!isOn(goer) || !isCell(cell)) {
            return NONE;
        }
        findWaysFrom(now.of(goer, World.CELL));
        return tally[cell] > 99 ? NO_ANSWER : tally[cell];
    }

    public int seen(int goer, int n) {
        if (!isGoer(goer) || !within(n, 0, 100)) {
            return NONE;
        }
        restart();
        long cells = 0;
        for (int k = 0; k <= n; k++) {
            if (work.isOn(goer)) {
                cells |= 1L << work.of(goer, World.CELL);
            }
            work.pass(ruleInForce());
        }
        return Long.bitCount(cells);
    }

    public int longest(int n, int what) {
        if (!hasSheet() || !within(n, 1, 100) || !within(what, 0, 1)) {
            return NONE;
        }
        if (goers() == 0) {
            return what == 0 ? NO_ANSWER : 0;
        }
        countOut(n);
        int who = 0;
        for (int g = 1; g < goers(); g++) {
            if (tally[g] > tally[who]) {
                who = g;
            }
        }
        return what == 0 ? who : tally[who];
    }

    public int bestFold(int n, int what) {
        if (!hasSheet() || !within(n, 1, 40) || !within(what, 0, 3)) {
            return NONE;
        }
        restart();
        int best = costBehind(n);
        int which = NONE;
        for (int k = 0; k < EDGES * EDGES; k++) {
            restart();
            work.set(World.LEADS + k / EDGES, k % EDGES);
            int cost = costBehind(n);
            if (cost < best) {
                best = cost;
                which = k;
            }
        }
        if (what < 2) {
            return what == 0 ? lostOf(best) : foodOf(best);
        }
        if (which == NONE) {
            return NO_ANSWER;
        }
        return what == 2 ? which / EDGES : which % EDGES;
    }

    public int bestStone(int n, int what) {
        if (!hasSheet() || !within(n, 1, 40) || !within(what, 0, 2)) {
            return NONE;
        }
        restart();
        int best = costBehind(n);
        int which = NO_ANSWER;
        for (int cell = 0; cell < now.cells(); cell++) {
            restart();
            work.turnStone(cell);
            int cost = costBehind(n);
            if (cost < best) {
                best = cost;
                which = cell;
            }
        }
        if (what == 2) {
            return which;
        }
        return what == 0 ? lostOf(best) : foodOf(best);
    }

    public int rests(int one, int other, int n, int what) {
        boolean twoOn = isOn(one) && isOn(other) && one != other;
        if (!twoOn || !within(n, 1, 20) || !within(what, 0, 2)) {
            return NONE;
        }
        for (int two = 0; two < TWOS; two++) {
            countOn(one, other, n, two);
        }
        int count = 0;
        int first = NONE;
        for (int two = TWOS - 1; two >= 0; two--) {
            if (isRest(two)) {
                count++;
                first = two;
            }
        }
        if (what == 0) {
            return count;
        }
        if (first == NONE) {
            return NO_ANSWER;
        }
        return what == 1 ? first / 4 : first % 4;
    }

    public int ring(int what) {
        if (!hasSheet() || !within(what, 0, 1)) {
            return NONE;
        }
        trackAll();
        for (int from = 0; from < RING_STEPS; from++) {
            for (int to = from + 1; to <= RING_STEPS; to++) {
                if (sameTrack(from, to)) {
                    return what == 0 ? now.get(World.STEP) + from : to - from;
                }
            }
        }
        return NO_ANSWER;
    }

    public int bread(int much, int goer) {
        if (!isGoer(goer) || !within(much, 0, 9999)) {
            return NONE;
        }
        int all = 0;
        for (int g = 0; g < goers(); g++) {
            all += hungerOf(g);
        }
        if (all == 0) {
            return 0;
        }
        int left = much;
        int sooner = 0;
        int own = much * hungerOf(goer) % all;
        for (int g = 0; g < goers(); g++) {
            int lost = much * hungerOf(g) % all;
            left -= much * hungerOf(g) / all;
            if (lost > own || lost == own && g < goer) {
                sooner++;
            }
        }
        return much * hungerOf(goer) / all + (sooner < left ? 1 : 0);
    }

    public int note(int n, int goer, int cell) {
        if (n == NONE) {
            notes.clear();
            return 0;
        }
        boolean canBe = within(n, 0, LAST_NOTED) && isGoer(goer) && (cell == NONE || isCell(cell));
        if (!canBe || notes.isFull()) {
            return NO_ANSWER;
        }
        notes.add(n, goer, cell);
        return notes.size();
    }

    public int ruled(int what) {
        if (!hasSheet() || !within(what, 0, 1)) {
            return NOT_ASKED_SO;
        }
        int count = 0;
        int first = NO_ANSWER;
        for (int k = ruleCount - 1; k >= NONE; k--) {
            if (rightlyRuled(k)) {
                count++;
                first = k;
            }
        }
        return what == 0 ? count : first;
    }

    public int look(int n, int what) {
        if (!hasSheet() || !within(n, 0, LAST_NOTED) || !within(what, 0, 1)) {
            return NONE;
        }
        int fitting = trackFitting(n);
        if (fitting == 0 || goers() == 0) {
            return NO_ANSWER;
        }
        int who = 0;
        int fewest = mostAlike(0, fitting);
        for (int g = 1; g < goers(); g++) {
            int alike = mostAlike(g, fitting);
            if (alike < fewest) {
                fewest = alike;
                who = g;
            }
        }
        return what == 0 ? who : fewest;
    }

    public int folds(int what) {
        if (!hasSheet() || !within(what, NONE, EDGES - 1)) {
            return NOT_ASKED_SO;
        }
        int count = 0;
        int first = NONE;
        int unlike = 0;
        boolean fits = false;
        for (int folding = 0; folding < FOLDINGS; folding++) {
            if (folding >= unlike) {
                fits = rightlyFolded(folding);
                unlike = behindAllLike(folding);
            }
            if (fits) {
                count++;
                first = first == NONE ? folding : first;
            }
        }
        if (what == NONE) {
            return count;
        }
        return first == NONE ? NO_ANSWER : leadIn(first, what);
    }

    public int seed(int x) {
        if (x < 0) {
            return NONE;
        }
        int was = this.x;
        this.x = x;
        return was;
    }

    public int gusts(int m, int n, int p, int what) {
        boolean canBe = within(m, 1, 10) && within(n, 1, 60) && within(p, 0, 100);
        if (!hasSheet() || !canBe || !within(what, 0, 1)) {
            return NONE;
        }
        draws.begin(x);
        int all = 0;
        for (int k = 0; k < m; k++) {
            restart();
            for (int i = 0; i < n; i++) {
                gust(p);
                work.pass(ruleInForce());
            }
            all += what == 0 ? Integer.bitCount(work.bitsOf(ON)) : work.foodOfAll();
        }
        return all;
    }

    public int count(int what) {
        switch (what) {
            case 0: return now.get(World.SIDE);
            case 1: return goers();
            case 2: return ruleCount;
            case 3: return inForce;
            case 4: return now.get(World.STEP);
            case 5: return now.bitsOf(ON);
            case 6: return now.bitsOf(LOST);
            case 7: return now.foodOfAll();
            case 8: return now.stones();
            case 9: return notes.size();
            case 10: return history.size();
            case 11: return x;
            case 12: return tape.length();
            default: return NONE;
        }
    }

    public int image(int k) {
        if (!within(k, 0, MOST_IMAGES - 1)) {
            return NONE;
        }
        Image image = images[k];
        image.made = true;
        image.now.copyFrom(now);
        image.told.copyFrom(told);
        image.notes.copyFrom(notes);
        image.inForce = inForce;
        image.x = x;
        return now.get(World.STEP);
    }

    public int back(int k) {
        if (!within(k, 0, MOST_IMAGES - 1) || !images[k].made) {
            return NONE;
        }
        Image image = images[k];
        now.copyFrom(image.now);
        told.copyFrom(image.told);
        notes.copyFrom(image.notes);
        inForce = image.inForce;
        x = image.x;
        history.clear();
        return now.get(World.STEP);
    }

    private static boolean within(int number, int least, int most) {
        return number >= least && number <= most;
    }

    private boolean hasSheet() {
        return now.get(World.SIDE) > 0;
    }

    private int goers() {
        return now.get(World.GOERS);
    }

    private boolean isGoer(int goer) {
        return within(goer, 0, goers() - 1);
    }

    private boolean isOn(int goer) {
        return isGoer(goer) && now.isOn(goer);
    }

    private boolean isCell(int cell) {
        return within(cell, 0, now.cells() - 1);
    }

    private static boolean isEdge(int edge) {
        return within(edge, 0, EDGES - 1);
    }

    private Rule ruleOf(int number) {
        return within(number, 0, ruleCount - 1) ? rules[number] : null;
    }

    private Rule ruleInForce() {
        return ruleOf(inForce);
    }

    /** What is asked is tried on a copy, since nothing may change by it. */
    private void restart() {
        work.copyFrom(now);
    }

    private void walkOn(int steps, Rule rule) {
        for (int k = 0; k < steps; k++) {
            work.pass(rule);
        }
    }

    private int hungerOf(int goer) {
        return now.of(goer, World.STATE) == LOST ? 0 : MOST_FOOD - now.of(goer, World.FOOD);
    }

    /** One number for fewest LOST, then most FOOD, so that two ends are compared at once. */
    private int costBehind(int n) {
        walkOn(n, ruleInForce());
        return Integer.bitCount(work.bitsOf(LOST)) * 1000 + 999 - work.foodOfAll();
    }

    private static int lostOf(int cost) {
        return cost / 1000;
    }

    private static int foodOf(int cost) {
        return 999 - cost % 1000;
    }

    /** Fills tally with the STEPS to each CELL; no way has more parts than there are CELLS. */
    private void findWaysFrom(int cell) {
        int cells = now.cells();
        for (int c = 0; c < cells; c++) {
            tally[c] = c == cell ? 0 : 1000;
        }
        boolean shorter = true;
        for (int k = 0; k < cells && shorter; k++) {
            shorter = false;
            for (int c = 0; c < cells; c++) {
                shorter |= spreadFrom(c);
            }
        }
    }

    private boolean spreadFrom(int cell) {
        boolean shorter = false;
        for (int faces = 0; faces < EDGES; faces++) {
            int next = now.nextCell(cell, faces);
            int steps = 1;
            if (next == NONE) {
                next = now.cellAt(now.get(World.LEADS + faces), now.placeOf(cell, faces));
                steps = now.get(World.DAYS + faces) + 2;
            }
            if (isCell(next) && !now.hasStone(next) && tally[cell] + steps < tally[next]) {
                tally[next] = tally[cell] + steps;
                shorter = true;
            }
        }
        return shorter;
    }

    private void countOut(int n) {
        for (int g = 0; g < MOST_GOERS; g++) {
            tally[g] = 0;
        }
        restart();
        for (int k = 0; k < n; k++) {
            work.pass(ruleInForce());
            for (int g = 0; g < MOST_GOERS; g++) {
                tally[g] += g < goers() && work.of(g, World.STATE) == OUT ? 1 : 0;
            }
        }
    }

    private void countOn(int one, int other, int n, int two) {
        restart();
        work.put(one, World.FACES, two / 4);
        work.put(other, World.FACES, two % 4);
        tally[two] = 0;
        otherTally[two] = 0;
        for (int k = 0; k < n; k++) {
            work.pass(ruleInForce());
            tally[two] += work.isOn(one) ? 1 : 0;
            otherTally[two] += work.isOn(other) ? 1 : 0;
        }
    }

    private boolean isRest(int two) {
        for (int faces = 0; faces < 4; faces++) {
            boolean oneGains = tally[faces * 4 + two % 4] > tally[two];
            boolean otherGains = otherTally[two / 4 * 4 + faces] > otherTally[two];
            if (oneGains || otherGains) {
                return false;
            }
        }
        return true;
    }

    private void trackAll() {
        restart();
        for (int k = 0; k <= RING_STEPS; k++) {
            for (int g = 0; g < MOST_GOERS; g++) {
                track[k * MOST_GOERS + g] = g < goers() ? work.whereabouts(g) : 0;
            }
            work.pass(ruleInForce());
        }
    }

    private boolean sameTrack(int from, int to) {
        for (int g = 0; g < MOST_GOERS; g++) {
            if (track[from * MOST_GOERS + g] != track[to * MOST_GOERS + g]) {
                return false;
            }
        }
        return true;
    }

    private boolean rightlyRuled(int number) {
        work.copyFrom(told);
        return notes.holdFrom(work, ruleOf(number));
    }

    /** Where all GOERS are at the n-th STEP, a row for each of the RULES that fit: how many fit. */
    private int trackFitting(int n) {
        int fitting = 0;
        for (int k = NONE; k < ruleCount && fitting <= MOST_RULES; k++) {
            Rule rule = ruleOf(k);
            work.copyFrom(told);
            if (notes.holdFrom(work, rule)) {
                work.copyFrom(told);
                walkOn(n, rule);
                for (int g = 0; g < MOST_GOERS; g++) {
                    track[fitting * MOST_GOERS + g] = work.of(g, World.CELL);
                }
                fitting++;
            }
        }
        return fitting;
    }

    private int mostAlike(int goer, int fitting) {
        int most = 0;
        for (int k = 0; k < fitting; k++) {
            int alike = 0;
            for (int i = 0; i < fitting; i++) {
                alike += track[i * MOST_GOERS + goer] == track[k * MOST_GOERS + goer] ? 1 : 0;
            }
            most = Math.max(most, alike);
        }
        return most;
    }

    /** A folding is four digits of two bits; EDGE 0 has the highest, as it comes first. */
    private static int leadIn(int folding, int edge) {
        return folding >> 2 * (EDGES - 1 - edge) & 3;
    }

    private boolean rightlyFolded(int folding) {
        work.copyFrom(told);
        for (int edge = 0; edge < EDGES; edge++) {
            work.set(World.LEADS + edge, leadIn(folding, edge));
        }
        return notes.holdFrom(work, ruleInForce());
    }

    /** EDGES by which nobody came in can lead anywhere: such foldings need not be walked again. */
    private int behindAllLike(int folding) {
        int free = 2 * (EDGES - 1 - work.lastUsed());
        return (folding >> free) + 1 << free;
    }

    private void gust(int p) {
        if (draws.draw() % 100 >= p || goers() == 0) {
            return;
        }
        int who = draws.draw() % goers();
        int faces = draws.draw() % 4;
        if (work.isOn(who)) {
            work.put(who, World.FACES, faces);
        }
    }

    /** All that STEPS read and change, in one row, so that it is copied at once. */
    private static final class World {
        static final int SIDE = 0;
        static final int GOERS = 1;
        static final int STEP = 2;
        static final int LEADS = 3;
        static final int DAYS = LEADS + EDGES;
        static final int STONES = DAYS + EDGES;
        static final int FIRST_GOER = STONES + MOST_CELLS;

        // The first six are numbered as the document numbers what is asked of a GOER.
        static final int CELL = 0;
        static final int FACES = 1;
        static final int FOOD = 2;
        static final int STATE = 3;
        static final int LEFT = 4;
        static final int BEEN = 5;
        static final int PLACE = 6;
        static final int PARTS = 7;

        private final int[] row = new int[FIRST_GOER + MOST_GOERS * PARTS];
        private int lastUsed = NONE;

        int get(int at) {
            return at >= 0 && at < row.length ? row[at] : 0;
        }

        void set(int at, int to) {
            if (at >= 0 && at < row.length) {
                row[at] = to;
            }
        }

        int of(int goer, int part) {
            int at = FIRST_GOER + goer * PARTS + part;
            return at >= FIRST_GOER && at < row.length ? row[at] : 0;
        }

        void put(int goer, int part, int to) {
            int at = FIRST_GOER + goer * PARTS + part;
            if (at >= FIRST_GOER && at < row.length) {
                row[at] = to;
            }
        }

        void copyFrom(World other) {
            System.arraycopy(other.row, 0, row, 0, row.length);
            lastUsed = NONE;
        }

        void clear() {
            for (int i = 0; i < row.length; i++) {
                row[i] = 0;
            }
            for (int edge = 0; edge < EDGES; edge++) {
                set(LEADS + edge, edge);
            }
            lastUsed = NONE;
        }

        void addGoer(int cell, int faces, int food) {
            int goer = get(GOERS);
            put(goer, CELL, cell);
            put(goer, FACES, faces);
            put(goer, FOOD, food);
            set(GOERS, goer + 1);
        }

        int cells() {
            return get(SIDE) * get(SIDE);
        }

        boolean isOn(int goer) {
            return of(goer, STATE) == ON;
        }

        boolean hasStone(int cell) {
            return cell >= 0 && cell < MOST_CELLS && row[STONES + cell] != 0;
        }

        void turnStone(int cell) {
            set(STONES + cell, 1 - get(STONES + cell));
        }

        int stones() {
            int count = 0;
            for (int cell = 0; cell < MOST_CELLS; cell++) {
                count += row[STONES + cell];
            }
            return count;
        }

        int bitsOf(int state) {
            int bits = 0;
            for (int g = 0; g < row[GOERS]; g++) {
                bits |= of(g, STATE) == state ? 1 << g : 0;
            }
            return bits;
        }

        int foodOfAll() {
            int all = 0;
            for (int g = 0; g < row[GOERS]; g++) {
                all += of(g, STATE) == LOST ? 0 : of(g, FOOD);
            }
            return all;
        }

        /** The last EDGE at which anybody came in, or tried to, since this was copied. */
        int lastUsed() {
            return lastUsed;
        }

        /** All by which two places of a GOER differ, as one number. */
        int whereabouts(int goer) {
            int state = of(goer, STATE);
            int spot = state == ON ? of(goer, CELL) : of(goer, PLACE);
            return ((state * 4 + of(goer, FACES)) * MOST_CELLS + spot) * 10 + of(goer, LEFT);
        }

        int rowOf(int cell) {
            int side = row[SIDE];
            return side > 0 ? cell / side : 0;
        }

        int columnOf(int cell) {
            int side = row[SIDE];
            return side > 0 ? cell % side : 0;
        }

        int margin(int cell, int faces) {
            int side = row[SIDE];
            if (side < 1) {
                return 0;
            }
            switch (faces) {
                case 0: return cell / side;
                case 1: return side - 1 - cell % side;
                case 2: return side - 1 - cell / side;
                default: return cell % side;
            }
        }

        /** NONE at the edge. */
        int nextCell(int cell, int faces) {
            int side = row[SIDE];
            if (side < 1) {
                return NONE;
            }
            switch (faces) {
                case 0: return cell >= side ? cell - side : NONE;
                case 1: return cell % side < side - 1 ? cell + 1 : NONE;
                case 2: return cell + side < side * side ? cell + side : NONE;
                default: return cell % side > 0 ? cell - 1 : NONE;
            }
        }

        int placeOf(int cell, int edge) {
            return (edge & 1) == 0 ? columnOf(cell) : rowOf(cell);
        }

        int cellAt(int edge, int place) {
            int side = row[SIDE];
            switch (edge) {
                case 0: return place;
                case 1: return place * side + side - 1;
                case 2: return (side - 1) * side + place;
                default: return place * side;
            }
        }

        /** One STEP. */
        void pass(Rule rule) {
            for (int g = 0; g < row[GOERS]; g++) {
                int state = of(g, STATE);
                if (state == ON) {
                    int quarters = rule == null ? 0 : rule.quarters(this, g);
                    put(g, FACES, of(g, FACES) + quarters & 3);
                    goOn(g);
                } else if (state == OUT) {
                    bideOut(g);
                }
            }
            set(STEP, get(STEP) + 1);
        }

        private void goOn(int goer) {
            int cell = of(goer, CELL);
            int faces = of(goer, FACES);
            int next = nextCell(cell, faces);
            if (next == NONE) {
                put(goer, STATE, OUT);
                put(goer, CELL, NONE);
                put(goer, PLACE, placeOf(cell, faces));
                put(goer, LEFT, get(DAYS + faces));
                put(goer, BEEN, of(goer, BEEN) + 1);
            } else if (!hasStone(next)) {
                put(goer, CELL, next);
            }
        }

        private void bideOut(int goer) {
            int food = of(goer, FOOD);
            int left = of(goer, LEFT);
            if (food == 0) {
                put(goer, STATE, LOST);
                put(goer, LEFT, 0);
                return;
            }
            put(goer, FOOD, food - 1);
            if (left > 0) {
                put(goer, LEFT, left - 1);
            } else {
                comeIn(goer);
            }
        }

        /** Nobody turns in the white, so how a GOER FACES there tells the EDGE he left by. */
        private void comeIn(int goer) {
            int left = of(goer, FACES);
            int edge = get(LEADS + left);
            int cell = cellAt(edge, of(goer, PLACE));
            lastUsed = Math.max(lastUsed, left);
            if (!hasStone(cell)) {
                put(goer, STATE, ON);
                put(goer, CELL, cell);
                put(goer, FACES, edge + 2 & 3);
            }
        }

        private int othersIn(int cell, int goer) {
            int others = 0;
            for (int g = 0; g < row[GOERS] && g < MOST_GOERS; g++) {
                others += g != goer && row[FIRST_GOER + g * PARTS + CELL] == cell ? 1 : 0;
            }
            return others;
        }

        /** What a WORD, by its number in RuleReader.VALUES, says of a GOER who is ON. */
        int wordOf(int word, int goer) {
            int cell = of(goer, CELL);
            int faces = of(goer, FACES);
            switch (word) {
                case 0: return goer;
                case 1: return cell;
                case 2: return rowOf(cell);
                case 3: return columnOf(cell);
                case 4: return faces;
                case 5: return of(goer, FOOD);
                case 6: return margin(cell, faces);
                case 7: return hasStone(nextCell(cell, faces)) ? 1 : 0;
                case 8: return othersIn(cell, goer);
                case 9: return of(goer, BEEN);
                default: return get(STEP);
            }
        }
    }

    /** A RULE as a row of orders for a stack, so that a STEP reads no text. */
    private static final class Rule {
        // Below these an order is the number of a WORD; operators stand by rank, the loosest first.
        static final int OR = 20;
        static final int AND = 21;
        static final int NOT = 22;
        static final int LESS = 23;
        static final int AT_MOST = 24;
        static final int LIKE = 25;
        static final int AT_LEAST = 26;
        static final int MORE = 27;
        static final int PLUS = 28;
        static final int MINUS = 29;
        static final int TIMES = 30;
        static final int PARTED = 31;
        static final int LEFT_OVER = 32;
        static final int TURN = 40;
        static final int TURN_IF = 41;
        static final int NUMBER = 100;

        private final int[] orders;
        private final long[] stack = new long[RuleReader.MOST_PARTS + 2];

        Rule(int[] from, int length) {
            int size = Math.max(0, Math.min(length, from.length));
            orders = new int[size];
            for (int i = 0; i < size; i++) {
                orders[i] = from[i];
            }
        }

        /** Each CLAUSE leaves its SUM at 0 and, if it has one, its TEST at 1. */
        int quarters(World world, int goer) {
            int top = 0;
            for (int i = 0; i < orders.length; i++) {
                int order = orders[i];
                if (order == TURN || order == TURN_IF) {
                    if (order == TURN || stack[1] != 0) {
                        return (int) (stack[0] & 3);
                    }
                    top = 0;
                } else if (order == NOT) {
                    negate(top - 1);
                } else if (order >= OR && order <= LEFT_OVER) {
                    top--;
                    combine(order, top);
                } else if (top >= 0 && top < stack.length) {
                    stack[top] = order >= NUMBER ? order - NUMBER : world.wordOf(order, goer);
                    top++;
                }
            }
            return 0;
        }

        private void negate(int at) {
            if (at >= 0 && at < stack.length) {
                stack[at] = 1 - stack[at];
            }
        }

        private void combine(int order, int at) {
            if (at >= 1 && at < stack.length) {
                long left = stack[at - 1];
                long right = stack[at];
                stack[at - 1] = order >= PLUS ? reckon(order, left, right) : judge(order, left, right) ? 1 : 0;
            }
        }

        private static long reckon(int order, long left, long right) {
            switch (order) {
                case PLUS: return left + right;
                case MINUS: return left - right;
                case TIMES: return left * right;
                case PARTED: return right == 0 ? 0 : left / right;
                default: return right == 0 ? 0 : left % right;
            }
        }

        private static boolean judge(int order, long left, long right) {
            switch (order) {
                case OR: return left != 0 || right != 0;
                case AND: return left != 0 && right != 0;
                case LESS: return left < right;
                case AT_MOST: return left <= right;
                case LIKE: return left == right;
                case AT_LEAST: return left >= right;
                default: return left > right;
            }
        }
    }

    /** The TAPE, and what stands next on it while it is read. */
    private static final class Text {
        static final int END = -1;
        static final int NUMBER = -2;
        static final int WORD = -3;
        // A sign that is no single byte gets a number that no byte has.
        static final int AT_MOST = 256;
        static final int AT_LEAST = 257;
        static final int MOST_DIGITS = 5;

        private final int[] bytes = new int[MOST_BYTES];
        private int length = 0;
        private int place = 0;
        private int start = 0;
        private int kind = END;
        private int value = 0;

        int length() {
            return length;
        }

        boolean hasRoom(int more) {
            return length + more <= bytes.length;
        }

        void append(int four) {
            for (int shift = 24; shift >= 0; shift -= 8) {
                if (length >= 0 && length < bytes.length) {
                    bytes[length] = four >> shift & 255;
                    length++;
                }
            }
        }

        void cutTo(int n) {
            length = n;
        }

        void rewind() {
            place = 0;
        }

        /** END, NUMBER, WORD or the sign itself. */
        int kind() {
            return kind;
        }

        /** Of a NUMBER; NONE if it has too many digits. */
        int value() {
            return value;
        }

        int faultOf(int why) {
            return 1 + 8 * start + why;
        }

        void next() {
            while (place < length && byteAt(place) == ' ') {
                place++;
            }
            start = place;
            int sign = byteAt(place);
            if (sign == END) {
                kind = END;
            } else if (isDigit(sign)) {
                readNumber();
            } else if (isLetter(sign)) {
                readWord();
            } else {
                readSign(sign);
            }
        }

        /** The place of this WORD among those of a list; NONE if it is no WORD, or not there. */
        int wordIn(String list) {
            if (kind != WORD) {
                return NONE;
            }
            int index = 0;
            int from = 0;
            for (int i = 0; i <= list.length(); i++) {
                if (i == list.length() || list.charAt(i) == ' ') {
                    if (isWord(list, from, i)) {
                        return index;
                    }
                    index++;
                    from = i + 1;
                }
            }
            return NONE;
        }

        private int byteAt(int at) {
            return at >= 0 && at < length && at < bytes.length ? bytes[at] : END;
        }

        private static boolean isDigit(int sign) {
            return sign >= '0' && sign <= '9';
        }

        private static boolean isLetter(int sign) {
            return sign >= 'a' && sign <= 'z';
        }

        private void readNumber() {
            kind = NUMBER;
            value = 0;
            while (place < length && isDigit(byteAt(place))) {
                if (place - start < MOST_DIGITS) {
                    value = value * 10 + byteAt(place) - '0';
                }
                place++;
            }
            if (place - start > MOST_DIGITS) {
                value = NONE;
            }
        }

        private void readWord() {
            kind = WORD;
            while (place < length && isLetter(byteAt(place))) {
                place++;
            }
        }

        private void readSign(int sign) {
            kind = sign;
            place++;
            if ((sign == '<' || sign == '>') && byteAt(place) == '=') {
                kind = sign == '<' ? AT_MOST : AT_LEAST;
                place++;
            }
        }

        private boolean isWord(String list, int from, int to) {
            if (to - from != place - start) {
                return false;
            }
            for (int i = from; i < to && i < list.length(); i++) {
                int at = start + i - from;
                if (at < 0 || at >= bytes.length || list.charAt(i) != bytes[at]) {
                    return false;
                }
            }
            return true;
        }
    }

    /** Why a text is refused; of one place the least counts. */
    private static final class Fault {
        static final int FINE = -1;
        static final int STRANGE = 0;
        static final int NUMBER = 1;
        static final int DEEP = 2;
        static final int PARTS = 3;
        static final int CLAUSE = 4;
    }

    /** Reads a SHEET. */
    private static final class SheetReader {
        private static final int MOST_CLAUSES = 40;
        private static final String CLAUSES = "sheet goer join stone";
        private static final int SHEET = 0;
        private static final int GOER = 1;
        private static final int JOIN = 2;

        private final int[] numbers = new int[3];

        /** The FAULT, or 0: then the SHEET is in the world. */
        int read(Text text, World into) {
            into.clear();
            text.rewind();
            for (int clauses = 0; clauses <= MOST_CLAUSES; clauses++) {
                text.next();
                int clause = text.wordIn(CLAUSES);
                int why = faultOfClause(clause, clauses, into);
                if (why == Fault.FINE) {
                    why = readNumbers(clause, text, into);
                }
                if (why != Fault.FINE) {
                    return text.faultOf(why);
                }
                take(clause, into);
                text.next();
                if (text.kind() == Text.END) {
                    return 0;
                }
                if (text.kind() != ';') {
                    return text.faultOf(Fault.STRANGE);
                }
            }
            return text.faultOf(Fault.CLAUSE);
        }

        private static int faultOfClause(int clause, int before, World into) {
            if (clause == NONE) {
                return Fault.STRANGE;
            }
            boolean misplaced = (clause == SHEET) != (before == 0);
            boolean tooMany = clause == GOER && into.get(World.GOERS) >= MOST_GOERS;
            return misplaced || tooMany || before >= MOST_CLAUSES ? Fault.CLAUSE : Fault.FINE;
        }

        private int readNumbers(int clause, Text text, World into) {
            int many = clause == GOER || clause == JOIN ? 3 : 1;
            for (int k = 0; k < many; k++) {
                text.next();
                if (text.kind() != Text.NUMBER) {
                    return Fault.STRANGE;
                }
                int least = clause == SHEET ? 2 : 0;
                if (!within(text.value(), least, mostOf(clause, k, into))) {
                    return Fault.NUMBER;
                }
                numbers[k] = text.value();
            }
            return Fault.FINE;
        }

        private static int mostOf(int clause, int k, World into) {
            switch (clause) {
                case SHEET: return 6;
                case GOER: return k == 0 ? into.cells() - 1 : k == 1 ? 3 : 60;
                case JOIN: return k < 2 ? EDGES - 1 : 9;
                default: return into.cells() - 1;
            }
        }

        private void take(int clause, World into) {
            if (clause == SHEET) {
                into.set(World.SIDE, numbers[0]);
            } else if (clause == GOER) {
                into.addGoer(numbers[0], numbers[1], numbers[2]);
            } else if (clause == JOIN) {
                into.set(World.LEADS + numbers[0], numbers[1]);
                into.set(World.DAYS + numbers[0], numbers[2]);
            } else {
                into.set(World.STONES + numbers[0], 1);
            }
        }
    }

    /** Reads a RULE; operators wait until one that binds no closer comes, so that nothing recurs. */
    private static final class RuleReader {
        static final int MOST_PARTS = 60;
        private static final int MOST_CLAUSES = 12;
        private static final int MOST_DEEP = 10;
        private static final String VALUES = "goer cell row column faces food margin stone here been step";

        // What has to stand next.
        private static final int A_CLAUSE = 0;
        private static final int A_VALUE = 1;
        private static final int A_FACT = 2;
        private static final int BEHIND_VALUE = 3;
        private static final int BEHIND_BRACKET = 4;

        private static final int OPEN = 50;

        private final int[] orders = new int[MOST_BYTES];
        private int size = 0;
        private final int[] waiting = new int[MOST_BYTES];
        private int waits = 0;
        private int due = A_CLAUSE;
        private int clauses = 0;
        private int parts = 0;
        private int deep = 0;
        private int brackets = 0;
        private boolean tested = false;
        private boolean signed = false;

        /** The FAULT, or 0: then made() has the RULE. */
        int read(Text text) {
            size = 0;
            waits = 0;
            due = A_CLAUSE;
            clauses = 0;
            parts = 0;
            deep = 0;
            brackets = 0;
            text.rewind();
            for (int k = 0; k <= MOST_BYTES; k++) {
                text.next();
                int why = take(text);
                if (why != Fault.FINE) {
                    return text.faultOf(why);
                }
                if (text.kind() == Text.END) {
                    return 0;
                }
            }
            return text.faultOf(Fault.STRANGE);
        }

        Rule made() {
            return new Rule(orders, size);
        }

        private int take(Text text) {
            switch (due) {
                case A_CLAUSE: return takeTurn(text);
                case A_VALUE: return takeValue(text);
                case A_FACT: return takeFact(text);
                case BEHIND_VALUE: return takeBehindValue(text);
                default: return takeBehindFact(text);
            }
        }

        private int takeTurn(Text text) {
            if (text.wordIn("turn") == NONE) {
                return Fault.STRANGE;
            }
            clauses++;
            tested = false;
            due = A_VALUE;
            return clauses > MOST_CLAUSES ? Fault.CLAUSE : Fault.FINE;
        }

        private int takeValue(Text text) {
            int word = text.wordIn(VALUES);
            boolean number = text.kind() == Text.NUMBER;
            if (!number && word == NONE) {
                return Fault.STRANGE;
            }
            if (number && text.value() == NONE) {
                return Fault.NUMBER;
            }
            order(number ? Rule.NUMBER + text.value() : word);
            due = BEHIND_VALUE;
            return partCounted();
        }

        private int takeFact(Text text) {
            boolean bracket = text.kind() == '[';
            if (!bracket && text.wordIn("not") == NONE) {
                signed = false;
                return takeValue(text);
            }
            deep++;
            brackets += bracket ? 1 : 0;
            await(bracket ? OPEN : Rule.NOT);
            return deep > MOST_DEEP ? Fault.DEEP : Fault.FINE;
        }

        private int takeBehindValue(Text text) {
            int operator = operatorOf(text.kind());
            if (operator >= Rule.PLUS) {
                settle(rankOf(operator));
                await(operator);
                due = A_VALUE;
                return Fault.FINE;
            }
            if (!tested) {
                return takeBehindTurn(text);
            }
            if (signed) {
                return takeBehindFact(text);
            }
            if (operator == NONE) {
                return Fault.STRANGE;
            }
            settle(rankOf(operator));
            await(operator);
            signed = true;
            due = A_VALUE;
            return partCounted();
        }

        private int takeBehindTurn(Text text) {
            if (text.wordIn("if") == NONE) {
                return takeEnd(text);
            }
            settle(0);
            tested = true;
            due = A_FACT;
            return Fault.FINE;
        }

        private int takeBehindFact(Text text) {
            int joint = text.wordIn("or and");
            if (joint != NONE) {
                int operator = joint == 0 ? Rule.OR : Rule.AND;
                settle(rankOf(operator));
                await(operator);
                due = A_FACT;
                return Fault.FINE;
            }
            if (brackets == 0) {
                return takeEnd(text);
            }
            if (text.kind() != ']') {
                return Fault.STRANGE;
            }
            settle(0);
            waits--;
            deep--;
            brackets--;
            due = BEHIND_BRACKET;
            return Fault.FINE;
        }

        private int takeEnd(Text text) {
            if (text.kind() != Text.END && text.kind() != ';') {
                return Fault.STRANGE;
            }
            settle(0);
            order(tested ? Rule.TURN_IF : Rule.TURN);
            due = A_CLAUSE;
            return Fault.FINE;
        }

        private int partCounted() {
            parts++;
            return parts > MOST_PARTS ? Fault.PARTS : Fault.FINE;
        }

        private void order(int what) {
            if (size >= 0 && size < orders.length) {
                orders[size] = what;
                size++;
            }
        }

        private void await(int operator) {
            if (waits >= 0 && waits < waiting.length) {
                waiting[waits] = operator;
                waits++;
            }
        }

        /** Operators that bind at least so close have all they need; a bracket holds back the rest. */
        private void settle(int rank) {
            while (waits > 0 && waits <= waiting.length && rankOf(waiting[waits - 1]) >= rank) {
                waits--;
                deep -= waiting[waits] == Rule.NOT ? 1 : 0;
                order(waiting[waits]);
            }
        }

        private static int rankOf(int operator) {
            if (operator == OPEN) {
                return NONE;
            }
            if (operator <= Rule.NOT) {
                return operator - Rule.OR + 1;
            }
            return operator <= Rule.MORE ? 4 : operator <= Rule.MINUS ? 5 : 6;
        }

        private static int operatorOf(int sign) {
            switch (sign) {
                case '<': return Rule.LESS;
                case Text.AT_MOST: return Rule.AT_MOST;
                case '=': return Rule.LIKE;
                case Text.AT_LEAST: return Rule.AT_LEAST;
                case '>': return Rule.MORE;
                case '+': return Rule.PLUS;
                case '-': return Rule.MINUS;
                case '*': return Rule.TIMES;
                case '/': return Rule.PARTED;
                case '%': return Rule.LEFT_OVER;
                default: return NONE;
            }
        }
    }

    /** What was told of where GOERS were. */
    private static final class Notes {
        private static final int MOST = 10;

        private final int[] steps = new int[MOST];
        private final int[] goers = new int[MOST];
        private final int[] cells = new int[MOST];
        private int size = 0;

        int size() {
            return size;
        }

        boolean isFull() {
            return size >= MOST;
        }

        void clear() {
            size = 0;
        }

        void add(int n, int goer, int cell) {
            if (size >= 0 && size < MOST) {
                steps[size] = n;
                goers[size] = goer;
                cells[size] = cell;
                size++;
            }
        }

        void copyFrom(Notes other) {
            System.arraycopy(other.steps, 0, steps, 0, MOST);
            System.arraycopy(other.goers, 0, goers, 0, MOST);
            System.arraycopy(other.cells, 0, cells, 0, MOST);
            size = other.size;
        }

        /** Whether all are so in a world that stands at its begin; it is walked no further than need be. */
        boolean holdFrom(World world, Rule rule) {
            int last = NONE;
            for (int k = 0; k < size; k++) {
                last = Math.max(last, steps[k]);
            }
            for (int step = 0; step <= last; step++) {
                if (!holdAt(step, world)) {
                    return false;
                }
                if (step < last) {
                    world.pass(rule);
                }
            }
            return true;
        }

        private boolean holdAt(int step, World world) {
            for (int k = 0; k < size; k++) {
                if (steps[k] == step && world.of(goers[k], World.CELL) != cells[k]) {
                    return false;
                }
            }
            return true;
        }
    }

    /** How all was ahead of each of the last ACTS. */
    private static final class History {
        private static final int MOST = 20;

        private final World[] worlds = new World[MOST];
        private int next = 0;
        private int size = 0;

        History() {
            for (int k = 0; k < MOST; k++) {
                worlds[k] = new World();
            }
        }

        int size() {
            return size;
        }

        void clear() {
            size = 0;
        }

        void keep(World now) {
            worlds[next].copyFrom(now);
            next = next + 1 < MOST ? next + 1 : 0;
            size = Math.min(MOST, size + 1);
        }

        /** How many more can be UNDONE; NONE if none could. */
        int goBack(World now) {
            if (size == 0) {
                return NONE;
            }
            next = next > 0 ? next - 1 : MOST - 1;
            now.copyFrom(worlds[next]);
            size--;
            return size;
        }
    }

    /** All but the TAPE and the RULES, as it was. */
    private static final class Image {
        private final World now = new World();
        private final World told = new World();
        private final Notes notes = new Notes();
        private boolean made = false;
        private int inForce = NONE;
        private int x = 0;
    }

    /** x, drawn from without touching the object's own. */
    private static final class Draws {
        private long x = 0;

        void begin(int from) {
            x = from;
        }

        int draw() {
            x = (x * 1103515245L + 12345L) % 2147483648L;
            return (int) (x / 65536L);
        }
    }
}
