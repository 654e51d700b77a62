import java.util.ArrayDeque;
import java.util.ArrayList;
import java.util.Arrays;
import java.util.Deque;
import java.util.HashMap;
import java.util.List;
import java.util.Map;
import java.util.PriorityQueue;
import java.util.TreeSet;
import java.util.function.IntPredicate;

/**
 * The document once more, written apart from the class and in another way (objects, recursion,
 * the library), so that a slip in one of the two shows where they differ.
 */
final class Oracle {
    static final int NONE = -1;

    static final class Refused extends RuntimeException {
        private static final long serialVersionUID = 1L;
        final int fault;

        Refused(int place, int why) {
            fault = 1 + 8 * place + why;
        }
    }

    static final class Goer {
        int row;
        int column;
        int faces;
        int food;
        boolean out;
        boolean lost;
        int days;
        int been;
        int place;

        Goer copy() {
            Goer g = new Goer();
            g.row = row;
            g.column = column;
            g.faces = faces;
            g.food = food;
            g.out = out;
            g.lost = lost;
            g.days = days;
            g.been = been;
            g.place = place;
            return g;
        }

        boolean on() {
            return !out && !lost;
        }
    }

    static final class State {
        int side;
        int step;
        List<Goer> goers = new ArrayList<>();
        TreeSet<Integer> stones = new TreeSet<>();
        int[] leads = {0, 1, 2, 3};
        int[] days = new int[4];

        State copy() {
            State s = new State();
            s.side = side;
            s.step = step;
            for (Goer g : goers) {
                s.goers.add(g.copy());
            }
            s.stones.addAll(stones);
            s.leads = leads.clone();
            s.days = days.clone();
            return s;
        }

        int cell(int g) {
            Goer goer = goers.get(g);
            return goer.on() ? goer.row * side + goer.column : NONE;
        }

        int bits(IntPredicate which) {
            int bits = 0;
            for (int g = 0; g < goers.size(); g++) {
                if (which.test(g)) {
                    bits += 1 << g;
                }
            }
            return bits;
        }

        int food() {
            return goers.stream().filter(g -> !g.lost).mapToInt(g -> g.food).sum();
        }
    }

    interface Sum {
        long of(State s, int goer);
    }

    interface Test {
        boolean of(State s, int goer);
    }

    record Clause(Sum sum, Test test) {
    }

    record Note(int n, int goer, int cell) {
    }

    record Picture(State now, State told, List<Note> notes, int force, int x) {
    }

    static final int[] DOWN = {-1, 0, 1, 0};
    static final int[] RIGHT = {0, 1, 0, -1};

    private StringBuilder tape = new StringBuilder();
    private State told = new State();
    private State now = new State();
    private final List<List<Clause>> rules = new ArrayList<>();
    private int force = NONE;
    private int x = 0;
    private List<Note> notes = new ArrayList<>();
    private final Deque<State> past = new ArrayDeque<>();
    private final Map<Integer, Picture> pictures = new HashMap<>();

    // ---- texts

    private static final class Parser {
        final String text;
        int at = 0;
        int parts = 0;

        Parser(String text) {
            this.text = text;
        }

        void blanks() {
            while (at < text.length() && text.charAt(at) == ' ') {
                at++;
            }
        }

        int peek() {
            blanks();
            return at < text.length() ? text.charAt(at) : -1;
        }

        String peekWord() {
            blanks();
            int to = at;
            while (to < text.length() && text.charAt(to) >= 'a' && text.charAt(to) <= 'z') {
                to++;
            }
            return text.substring(at, to);
        }

        boolean tryWord(String word) {
            if (!peekWord().equals(word)) {
                return false;
            }
            at += word.length();
            return true;
        }

        String peekDigits() {
            blanks();
            int to = at;
            while (to < text.length() && text.charAt(to) >= '0' && text.charAt(to) <= '9') {
                to++;
            }
            return text.substring(at, to);
        }

        int number(int least, int most) {
            String digits = peekDigits();
            if (digits.isEmpty()) {
                throw new Refused(at, 0);
            }
            if (digits.length() > 5 || Integer.parseInt(digits) < least || Integer.parseInt(digits) > most) {
                throw new Refused(at, 1);
            }
            at += digits.length();
            return Integer.parseInt(digits);
        }

        /** True if another CLAUSE has to come. */
        boolean more() {
            int sign = peek();
            if (sign == -1) {
                return false;
            }
            if (sign != ';') {
                throw new Refused(at, 0);
            }
            at++;
            return true;
        }

        State sheet() {
            State s = new State();
            int clauses = 0;
            do {
                String word = peekWord();
                if (!Arrays.asList("sheet", "goer", "join", "stone").contains(word)) {
                    throw new Refused(at, 0);
                }
                clauses++;
                if (clauses > 40 || word.equals("sheet") && clauses > 1 || !word.equals("sheet") && clauses == 1
                        || word.equals("goer") && s.goers.size() == 5) {
                    throw new Refused(at, 4);
                }
                at += word.length();
                if (word.equals("sheet")) {
                    s.side = number(2, 6);
                } else if (word.equals("goer")) {
                    int cell = number(0, s.side * s.side - 1);
                    Goer g = new Goer();
                    g.row = cell / s.side;
                    g.column = cell % s.side;
                    g.faces = number(0, 3);
                    g.food = number(0, 60);
                    s.goers.add(g);
                } else if (word.equals("join")) {
                    int edge = number(0, 3);
                    int to = number(0, 3);
                    s.days[edge] = number(0, 9);
                    s.leads[edge] = to;
                } else {
                    s.stones.add(number(0, s.side * s.side - 1));
                }
            } while (more());
            return s;
        }

        List<Clause> rule() {
            List<Clause> clauses = new ArrayList<>();
            do {
                int first = peek() == -1 ? text.length() : at;
                if (!peekWord().equals("turn")) {
                    throw new Refused(first, 0);
                }
                if (clauses.size() == 12) {
                    throw new Refused(first, 4);
                }
                at += 4;
                Sum sum = sum();
                Test test = null;
                if (tryWord("if")) {
                    test = test(0);
                }
                clauses.add(new Clause(sum, test));
            } while (more());
            return clauses;
        }

        Test test(int deep) {
            Test left = part(deep);
            while (tryWord("or")) {
                Test a = left;
                Test b = part(deep);
                left = (s, g) -> a.of(s, g) || b.of(s, g);
            }
            return left;
        }

        Test part(int deep) {
            Test left = fact(deep);
            while (tryWord("and")) {
                Test a = left;
                Test b = fact(deep);
                left = (s, g) -> a.of(s, g) && b.of(s, g);
            }
            return left;
        }

        Test fact(int deep) {
            boolean not = peekWord().equals("not");
            if (not || peek() == '[') {
                if (deep == 10) {
                    throw new Refused(at, 2);
                }
                at += not ? 3 : 1;
                if (not) {
                    Test inner = fact(deep + 1);
                    return (s, g) -> !inner.of(s, g);
                }
                Test inner = test(deep + 1);
                if (peek() != ']') {
                    throw new Refused(at, 0);
                }
                at++;
                return inner;
            }
            Sum a = sum();
            String sign = sign();
            Sum b = sum();
            return (s, g) -> holds(sign, Long.compare(a.of(s, g), b.of(s, g)));
        }

        static boolean holds(String sign, int order) {
            return order < 0 && sign.startsWith("<") || order > 0 && sign.startsWith(">")
                    || order == 0 && sign.endsWith("=");
        }

        String sign() {
            blanks();
            for (String sign : new String[] {"<=", ">=", "<", "=", ">"}) {
                if (text.startsWith(sign, at)) {
                    count();
                    at += sign.length();
                    return sign;
                }
            }
            throw new Refused(at, 0);
        }

        void count() {
            parts++;
            if (parts > 60) {
                throw new Refused(at, 3);
            }
        }

        Sum sum() {
            Sum left = term();
            while (peek() == '+' || peek() == '-') {
                boolean plus = text.charAt(at++) == '+';
                Sum a = left;
                Sum b = term();
                left = plus ? (s, g) -> a.of(s, g) + b.of(s, g) : (s, g) -> a.of(s, g) - b.of(s, g);
            }
            return left;
        }

        Sum term() {
            Sum left = value();
            while (peek() == '*' || peek() == '/' || peek() == '%') {
                char sign = text.charAt(at++);
                Sum a = left;
                Sum b = value();
                left = (s, g) -> product(sign, a.of(s, g), b.of(s, g));
            }
            return left;
        }

        static long product(char sign, long a, long b) {
            if (sign == '*') {
                return a * b;
            }
            if (b == 0) {
                return 0;
            }
            return sign == '/' ? a / b : a % b;
        }

        Sum value() {
            if (!peekDigits().isEmpty()) {
                if (peekDigits().length() > 5) {
                    throw new Refused(at, 1);
                }
                count();
                int number = number(0, 99999);
                return (s, g) -> number;
            }
            String word = peekWord();
            Sum sum = wordSum(word);
            if (sum == null) {
                throw new Refused(at, 0);
            }
            count();
            at += word.length();
            return sum;
        }
    }

    static Sum wordSum(String word) {
        switch (word) {
            case "goer": return (s, g) -> g;
            case "cell": return (s, g) -> s.cell(g);
            case "row": return (s, g) -> s.goers.get(g).row;
            case "column": return (s, g) -> s.goers.get(g).column;
            case "faces": return (s, g) -> s.goers.get(g).faces;
            case "food": return (s, g) -> s.goers.get(g).food;
            case "margin": return Oracle::margin;
            case "stone": return Oracle::stoneNext;
            case "here": return Oracle::here;
            case "been": return (s, g) -> s.goers.get(g).been;
            case "step": return (s, g) -> s.step;
            default: return null;
        }
    }

    static boolean lies(State s, int row, int column) {
        return row >= 0 && column >= 0 && row < s.side && column < s.side;
    }

    static long margin(State s, int g) {
        Goer goer = s.goers.get(g);
        int many = 0;
        int row = goer.row + DOWN[goer.faces];
        int column = goer.column + RIGHT[goer.faces];
        while (lies(s, row, column)) {
            many++;
            row += DOWN[goer.faces];
            column += RIGHT[goer.faces];
        }
        return many;
    }

    static long stoneNext(State s, int g) {
        Goer goer = s.goers.get(g);
        int row = goer.row + DOWN[goer.faces];
        int column = goer.column + RIGHT[goer.faces];
        return lies(s, row, column) && s.stones.contains(row * s.side + column) ? 1 : 0;
    }

    static long here(State s, int g) {
        int many = 0;
        for (int other = 0; other < s.goers.size(); other++) {
            if (other != g && s.cell(other) != NONE && s.cell(other) == s.cell(g)) {
                many++;
            }
        }
        return many;
    }

    // ---- a STEP

    static void pass(State s, List<Clause> rule) {
        for (int g = 0; g < s.goers.size(); g++) {
            Goer goer = s.goers.get(g);
            if (goer.lost) {
                continue;
            }
            if (goer.out) {
                passOut(s, goer);
            } else {
                passOn(s, goer, turns(s, g, rule));
            }
        }
        s.step++;
    }

    static int turns(State s, int g, List<Clause> rule) {
        if (rule != null) {
            for (Clause c : rule) {
                if (c.test() == null || c.test().of(s, g)) {
                    return (int) Math.floorMod(c.sum().of(s, g), 4L);
                }
            }
        }
        return 0;
    }

    static void passOn(State s, Goer goer, int turns) {
        goer.faces = (goer.faces + turns) % 4;
        int row = goer.row + DOWN[goer.faces];
        int column = goer.column + RIGHT[goer.faces];
        if (!lies(s, row, column)) {
            goer.out = true;
            goer.been++;
            goer.days = s.days[goer.faces];
            goer.place = goer.faces == 0 || goer.faces == 2 ? goer.column : goer.row;
        } else if (!s.stones.contains(row * s.side + column)) {
            goer.row = row;
            goer.column = column;
        }
    }

    static void passOut(State s, Goer goer) {
        if (goer.food == 0) {
            goer.lost = true;
            goer.out = false;
            goer.days = 0;
            return;
        }
        goer.food--;
        if (goer.days > 0) {
            goer.days--;
            return;
        }
        int edge = s.leads[goer.faces];
        int row = edge == 0 ? 0 : edge == 2 ? s.side - 1 : goer.place;
        int column = edge == 3 ? 0 : edge == 1 ? s.side - 1 : goer.place;
        if (!s.stones.contains(row * s.side + column)) {
            goer.out = false;
            goer.row = row;
            goer.column = column;
            goer.faces = (edge + 2) % 4;
        }
    }

    private List<Clause> forced() {
        return force == NONE ? null : rules.get(force);
    }

    private State after(State from, int n) {
        State s = from.copy();
        for (int k = 0; k < n; k++) {
            pass(s, forced());
        }
        return s;
    }

    private static boolean in(int a, int least, int most) {
        return least <= a && a <= most;
    }

    private boolean isGoer(int g) {
        return in(g, 0, now.goers.size() - 1);
    }

    private boolean isOn(int g) {
        return isGoer(g) && now.goers.get(g).on();
    }

    private boolean isCell(int c) {
        return in(c, 0, now.side * now.side - 1);
    }

    private boolean blank() {
        return now.side == 0;
    }

    // ---- the face

    int feed(int a, int b, int c, int d, int e) {
        if (tape.length() > 380) {
            return NONE;
        }
        for (int four : new int[] {a, b, c, d, e}) {
            for (int k = 3; k >= 0; k--) {
                tape.append((char) (four >>> 8 * k & 255));
            }
        }
        return tape.length();
    }

    int end(int n) {
        if (n < 0 || n > tape.length()) {
            return NONE;
        }
        tape.setLength(n);
        return n;
    }

    int sheet() {
        String text = tape.toString();
        tape = new StringBuilder();
        try {
            told = new Parser(text).sheet();
        } catch (Refused r) {
            return -2 - r.fault;
        }
        now = told.copy();
        notes.clear();
        past.clear();
        return now.goers.size();
    }

    int rule() {
        if (rules.size() == 6) {
            return NONE;
        }
        String text = tape.toString();
        tape = new StringBuilder();
        try {
            rules.add(new Parser(text).rule());
        } catch (Refused r) {
            return -2 - r.fault;
        }
        return rules.size() - 1;
    }

    int force(int rule) {
        if (rule < -1 || rule >= rules.size()) {
            return -2;
        }
        int was = force;
        force = rule;
        return was;
    }

    int goer(int g, int what) {
        return isGoer(g) ? goerOf(now, g, what) : -2;
    }

    static int goerOf(State s, int g, int what) {
        Goer goer = s.goers.get(g);
        switch (what) {
            case 0: return s.cell(g);
            case 1: return goer.faces;
            case 2: return goer.food;
            case 3: return goer.lost ? 2 : goer.out ? 1 : 0;
            case 4: return goer.out ? goer.days : 0;
            case 5: return goer.been;
            default: return -2;
        }
    }

    int join(int edge, int what) {
        if (blank() || !in(edge, 0, 3) || !in(what, 0, 1)) {
            return NONE;
        }
        return what == 0 ? now.leads[edge] : now.days[edge];
    }

    int stoneIn(int cell) {
        return !isCell(cell) ? NONE : now.stones.contains(cell) ? 1 : 0;
    }

    private void act() {
        past.push(now.copy());
        if (past.size() > 20) {
            past.removeLast();
        }
    }

    int step() {
        if (blank() || now.step == 999) {
            return NONE;
        }
        act();
        pass(now, forced());
        return now.bits(g -> now.goers.get(g).on());
    }

    int give(int g, int much) {
        if (!isGoer(g) || now.goers.get(g).lost || much < 1 || much > 20) {
            return NONE;
        }
        act();
        Goer goer = now.goers.get(g);
        goer.food = Math.min(goer.food + much, 99);
        return goer.food;
    }

    int way(int g, int faces) {
        if (!isOn(g) || faces < 0 || faces > 3 || now.goers.get(g).faces == faces) {
            return NONE;
        }
        act();
        int was = now.goers.get(g).faces;
        now.goers.get(g).faces = faces;
        return was;
    }

    private static boolean toggle(State s, int cell) {
        return !s.stones.remove(cell) && s.stones.add(cell);
    }

    int stone(int cell) {
        if (!isCell(cell)) {
            return NONE;
        }
        act();
        return toggle(now, cell) ? 1 : 0;
    }

    int fold(int edge, int other) {
        if (blank() || !in(edge, 0, 3) || !in(other, 0, 3) || now.leads[edge] == other) {
            return NONE;
        }
        act();
        int was = now.leads[edge];
        now.leads[edge] = other;
        return was;
    }

    int undo() {
        if (past.isEmpty()) {
            return NONE;
        }
        now = past.pop();
        return past.size();
    }

    int ahead(int g, int n, int what) {
        return isGoer(g) && in(n, 0, 100) && in(what, 0, 2) ? goerOf(after(now, n), g, what) : -2;
    }

    int home(int g) {
        if (!isGoer(g)) {
            return NONE;
        }
        for (int k = 0; k < 200; k++) {
            if (after(now, k).goers.get(g).on()) {
                return now.step + k;
            }
        }
        return -2;
    }

    int gone(int n) {
        if (blank() || !in(n, 0, 100)) {
            return NONE;
        }
        State s = after(now, n);
        return s.bits(g -> s.goers.get(g).lost);
    }

    int leastFood(int g, int n) {
        if (!isGoer(g) || !in(n, 1, 100)) {
            return NONE;
        }
        for (int food = 0; food <= 60; food++) {
            State s = now.copy();
            s.goers.get(g).food = food;
            if (!after(s, n).goers.get(g).lost) {
                return food;
            }
        }
        return -2;
    }

    int meet(int one, int other) {
        if (!isGoer(one) || !isGoer(other) || one == other) {
            return NONE;
        }
        State s = now.copy();
        for (int k = 0; k < 200; k++) {
            if (s.cell(one) != NONE && s.cell(one) == s.cell(other)) {
                return s.step;
            }
            pass(s, forced());
        }
        return -2;
    }

    /** Walks all that one GOER could do, STEP by STEP, with a full bag. */
    int shortest(int g, int cell) {
        if (!isOn(g) || !isCell(cell)) {
            return NONE;
        }
        PriorityQueue<int[]> queue = new PriorityQueue<>((a, b) -> Integer.compare(a[0], b[0]));
        TreeSet<Integer> done = new TreeSet<>();
        queue.add(new int[] {0, now.cell(g)});
        while (!queue.isEmpty()) {
            int[] next = queue.poll();
            if (next[0] > 99) {
                return -2;
            }
            if (next[1] == cell) {
                return next[0];
            }
            if (!done.add(next[1])) {
                continue;
            }
            for (int faces = 0; faces < 4; faces++) {
                State s = new State();
                s.side = now.side;
                s.stones = now.stones;
                s.leads = now.leads;
                s.days = now.days;
                Goer goer = new Goer();
                goer.row = next[1] / s.side;
                goer.column = next[1] % s.side;
                goer.faces = faces;
                goer.food = 1000;
                s.goers.add(goer);
                int steps = 0;
                do {
                    pass(s, null);
                    steps++;
                } while (!goer.on() && steps < 20);
                if (goer.on()) {
                    queue.add(new int[] {next[0] + steps, s.cell(0)});
                }
            }
        }
        return -2;
    }

    int seen(int g, int n) {
        if (!isGoer(g) || !in(n, 0, 100)) {
            return NONE;
        }
        TreeSet<Integer> cells = new TreeSet<>();
        for (int k = 0; k <= n; k++) {
            cells.add(after(now, k).cell(g));
        }
        cells.remove(NONE);
        return cells.size();
    }

    int longest(int n, int what) {
        if (blank() || !in(n, 1, 100) || !in(what, 0, 1)) {
            return NONE;
        }
        int who = -2;
        int most = 0;
        for (int g = 0; g < now.goers.size(); g++) {
            int many = 0;
            State s = now.copy();
            for (int k = 0; k < n; k++) {
                pass(s, forced());
                many += s.goers.get(g).out ? 1 : 0;
            }
            if (who == -2 || many > most) {
                who = g;
                most = many;
            }
        }
        return what == 0 ? who : most;
    }

    private static int lost(State s) {
        return (int) s.goers.stream().filter(g -> g.lost).count();
    }

    private static boolean better(State a, State b) {
        return lost(a) < lost(b) || lost(a) == lost(b) && a.food() > b.food();
    }

    int bestFold(int n, int what) {
        if (blank() || !in(n, 1, 40) || !in(what, 0, 3)) {
            return NONE;
        }
        State best = after(now, n);
        int[] which = {-2, -2};
        for (int edge = 0; edge < 4; edge++) {
            for (int other = 0; other < 4; other++) {
                State s = now.copy();
                s.leads[edge] = other;
                s = after(s, n);
                if (better(s, best)) {
                    best = s;
                    which = new int[] {edge, other};
                }
            }
        }
        return what == 0 ? lost(best) : what == 1 ? best.food() : which[what - 2];
    }

    int bestStone(int n, int what) {
        if (blank() || !in(n, 1, 40) || !in(what, 0, 2)) {
            return NONE;
        }
        State best = after(now, n);
        int which = -2;
        for (int cell = 0; cell < now.side * now.side; cell++) {
            State s = now.copy();
            toggle(s, cell);
            s = after(s, n);
            if (better(s, best)) {
                best = s;
                which = cell;
            }
        }
        return what == 0 ? lost(best) : what == 1 ? best.food() : which;
    }

    private int onSteps(int one, int a, int other, int b, int n, int of) {
        State s = now.copy();
        s.goers.get(one).faces = a;
        s.goers.get(other).faces = b;
        int many = 0;
        for (int k = 0; k < n; k++) {
            pass(s, forced());
            many += s.goers.get(of).on() ? 1 : 0;
        }
        return many;
    }

    int rests(int one, int other, int n, int what) {
        if (!isOn(one) || !isOn(other) || one == other || !in(n, 1, 20) || !in(what, 0, 2)) {
            return NONE;
        }
        List<int[]> found = new ArrayList<>();
        for (int a = 0; a < 4; a++) {
            for (int b = 0; b < 4; b++) {
                boolean rest = true;
                for (int c = 0; c < 4; c++) {
                    rest &= onSteps(one, c, other, b, n, one) <= onSteps(one, a, other, b, n, one);
                    rest &= onSteps(one, a, other, c, n, other) <= onSteps(one, a, other, b, n, other);
                }
                if (rest) {
                    found.add(new int[] {a, b});
                }
            }
        }
        return what == 0 ? found.size() : found.isEmpty() ? -2 : found.get(0)[what - 1];
    }

    private static String where(State s) {
        StringBuilder all = new StringBuilder();
        for (int g = 0; g < s.goers.size(); g++) {
            Goer goer = s.goers.get(g);
            all.append(goer.lost ? "L" : goer.out ? "O" + goer.days + "," + goer.place : "C" + s.cell(g));
            all.append(':').append(goer.faces).append(' ');
        }
        return all.toString();
    }

    int ring(int what) {
        if (blank() || !in(what, 0, 1)) {
            return NONE;
        }
        List<String> all = new ArrayList<>();
        for (int k = 0; k <= 60; k++) {
            all.add(where(after(now, k)));
        }
        for (int k = 0; k < 60; k++) {
            int later = all.subList(k + 1, 61).indexOf(all.get(k));
            if (later >= 0) {
                return what == 0 ? now.step + k : later + 1;
            }
        }
        return -2;
    }

    int bread(int much, int g) {
        if (!isGoer(g) || !in(much, 0, 9999)) {
            return NONE;
        }
        int many = now.goers.size();
        int[] part = new int[many];
        List<Integer> order = new ArrayList<>();
        int all = 0;
        for (Goer goer : now.goers) {
            all += goer.lost ? 0 : 99 - goer.food;
        }
        if (all == 0 || now.goers.get(g).lost) {
            return 0;
        }
        int given = 0;
        double[] lost = new double[many];
        for (int k = 0; k < many; k++) {
            int short99 = now.goers.get(k).lost ? 0 : 99 - now.goers.get(k).food;
            part[k] = much * short99 / all;
            lost[k] = much * short99 - part[k] * all;
            given += part[k];
            order.add(k);
        }
        order.removeIf(k -> now.goers.get(k).lost);
        order.sort((a, b) -> Double.compare(lost[b], lost[a]));
        for (int k = 0; k < much - given; k++) {
            part[order.get(k)]++;
        }
        return part[g];
    }

    int note(int n, int g, int cell) {
        if (n == NONE) {
            notes.clear();
            return 0;
        }
        if (!in(n, 0, 60) || !isGoer(g) || cell != NONE && !isCell(cell) || notes.size() == 10) {
            return -2;
        }
        notes.add(new Note(n, g, cell));
        return notes.size();
    }

    private boolean fits(State from, List<Clause> rule) {
        for (Note note : notes) {
            if (cellAt(from, rule, note.n(), note.goer()) != note.cell()) {
                return false;
            }
        }
        return true;
    }

    private static int cellAt(State from, List<Clause> rule, int n, int g) {
        State s = from.copy();
        for (int k = 0; k < n; k++) {
            pass(s, rule);
        }
        return s.cell(g);
    }

    private List<Integer> fitting() {
        List<Integer> all = new ArrayList<>();
        for (int k = -1; k < rules.size(); k++) {
            if (fits(told, k < 0 ? null : rules.get(k))) {
                all.add(k);
            }
        }
        return all;
    }

    int ruled(int what) {
        if (blank() || !in(what, 0, 1)) {
            return -3;
        }
        List<Integer> all = fitting();
        return what == 0 ? all.size() : all.isEmpty() ? -2 : all.get(0);
    }

    int look(int n, int what) {
        if (blank() || !in(n, 0, 60) || !in(what, 0, 1)) {
            return NONE;
        }
        int who = -2;
        int fewest = -2;
        for (int g = 0; g < now.goers.size(); g++) {
            Map<Integer, Integer> groups = new HashMap<>();
            for (int k : fitting()) {
                groups.merge(cellAt(told, k < 0 ? null : rules.get(k), n, g), 1, Integer::sum);
            }
            int most = groups.values().stream().mapToInt(v -> v).max().orElse(-2);
            if (most > 0 && (fewest < 0 || most < fewest)) {
                fewest = most;
                who = g;
            }
        }
        return what == 0 ? who : fewest;
    }

    int folds(int what) {
        if (blank() || !in(what, -1, 3)) {
            return -3;
        }
        int many = 0;
        int[] first = {-2, -2, -2, -2};
        for (int k = 0; k < 256; k++) {
            State s = told.copy();
            s.leads = new int[] {k / 64, k / 16 % 4, k / 4 % 4, k % 4};
            if (fits(s, forced())) {
                if (many == 0) {
                    first = s.leads;
                }
                many++;
            }
        }
        return what == NONE ? many : first[what];
    }

    int seed(int to) {
        if (to < 0) {
            return NONE;
        }
        int was = x;
        x = to;
        return was;
    }

    private long drawing;

    private int draw() {
        drawing = (drawing * 1103515245L + 12345) & 0x7fffffffL;
        return (int) (drawing >> 16);
    }

    int gusts(int m, int n, int p, int what) {
        if (blank() || !in(m, 1, 10) || !in(n, 1, 60) || !in(p, 0, 100) || !in(what, 0, 1)) {
            return NONE;
        }
        drawing = x;
        int all = 0;
        for (int k = 0; k < m; k++) {
            State s = now.copy();
            for (int i = 0; i < n; i++) {
                if (draw() % 100 < p && !s.goers.isEmpty()) {
                    Goer goer = s.goers.get(draw() % s.goers.size());
                    int faces = draw() % 4;
                    goer.faces = goer.on() ? faces : goer.faces;
                }
                pass(s, forced());
            }
            all += what == 0 ? (int) s.goers.stream().filter(Goer::on).count() : s.food();
        }
        return all;
    }

    int count(int what) {
        int[] all = {now.side, now.goers.size(), rules.size(), force, now.step,
            now.bits(g -> now.goers.get(g).on()), now.bits(g -> now.goers.get(g).lost), now.food(),
            now.stones.size(), notes.size(), past.size(), x, tape.length()};
        return in(what, 0, 12) ? all[what] : NONE;
    }

    int image(int k) {
        if (!in(k, 0, 3)) {
            return NONE;
        }
        pictures.put(k, new Picture(now.copy(), told.copy(), new ArrayList<>(notes), force, x));
        return now.step;
    }

    int back(int k) {
        Picture p = pictures.get(k);
        if (p == null) {
            return NONE;
        }
        now = p.now().copy();
        told = p.told().copy();
        notes = new ArrayList<>(p.notes());
        force = p.force();
        x = p.x();
        past.clear();
        return now.step;
    }
}
