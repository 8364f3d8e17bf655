import java.util.ArrayList;
import java.util.Arrays;
import java.util.List;

/**
 * The document told a second time, as slowly and plainly as its words: all is found by trying, and nothing is kept that
 * can be found again, but for steps while nothing changes. RandomRuns holds NineRiver against it.
 */
public final class Model {
    static final int NONE = -1;
    static final int NOTHING = -1000;

    private static final class Broken extends RuntimeException {
        private static final long serialVersionUID = 1L;
    }

    private static final class Fault extends RuntimeException {
        private static final long serialVersionUID = 1L;
        final int place;

        Fault(int place) {
            this.place = place;
        }
    }

    private interface Sum {
        long of(int[] about);
    }

    private interface Test {
        boolean of(int[] about);
    }

    private static final class Clause {
        String kind;
        Sum sum;
        Test test;

        /** Its worth if it holds, else null. */
        Long holds(int[] about) {
            try {
                if (test != null && !test.of(about)) {
                    return null;
                }
                return sum == null ? 0L : sum.of(about);
            } catch (Broken broken) {
                return null;
            }
        }
    }

    /** Reads a text into clauses; throws a Fault. */
    private static final class Text {
        private final List<String> tokens = new ArrayList<>();
        private final List<Integer> places = new ArrayList<>();
        private int next = 0;
        private int parts = 0;

        Text(String text) {
            int i = 0;
            while (i < text.length()) {
                int j = i + 1;
                String kind = text.substring(i, j).matches("[a-z]") ? "[a-z]" : text.substring(i, j).matches("[0-9]") ? "[0-9]" : "";
                while (!kind.isEmpty() && j < text.length() && text.substring(j, j + 1).matches(kind)) {
                    j++;
                }
                if (text.charAt(i) != ' ') {
                    tokens.add(text.substring(i, j));
                    places.add(i);
                }
                i = j;
            }
            tokens.add("");
            places.add(text.length());
        }

        String peek() {
            return tokens.get(next);
        }

        boolean take(String token) {
            boolean is = peek().equals(token);
            next += is ? 1 : 0;
            return is;
        }

        Fault fault() {
            return new Fault(places.get(next));
        }

        void need(String token) {
            if (!take(token)) {
                throw fault();
            }
        }

        List<Clause> read() {
            List<Clause> clauses = new ArrayList<>();
            do {
                if (clauses.size() == 12) {
                    throw fault();
                }
                clauses.add(clause());
            } while (take(";"));
            if (!peek().isEmpty()) {
                throw fault();
            }
            return clauses;
        }

        Clause clause() {
            Clause clause = new Clause();
            clause.kind = peek();
            if (!Arrays.asList("flows", "costs", "tolls", "bars").contains(clause.kind)) {
                throw fault();
            }
            next++;
            if (!clause.kind.equals("bars")) {
                clause.sum = sum(0);
            }
            if (take("if")) {
                clause.test = test(0);
            }
            return clause;
        }

        Test test(int deep) {
            Test left = both(deep);
            if (!take("or")) {
                return left;
            }
            Test right = test(deep);
            return about -> left.of(about) || right.of(about);
        }

        Test both(int deep) {
            Test left = plain(deep);
            if (!take("and")) {
                return left;
            }
            Test right = both(deep);
            return about -> left.of(about) && right.of(about);
        }

        Test plain(int deep) {
            if (take("not")) {
                Test inner = plain(deep);
                return about -> !inner.of(about);
            }
            if (peek().equals("(")) {
                if (deep == 8) {
                    throw fault();
                }
                next++;
                Test inner = test(deep + 1);
                need(")");
                return inner;
            }
            Sum left = sum(deep);
            String op = peek();
            if (!Arrays.asList("<", ">", "=").contains(op)) {
                throw fault();
            }
            next++;
            Sum right = sum(deep);
            return about -> {
                long a = left.of(about);
                long b = right.of(about);
                return op.equals("<") ? a < b : op.equals(">") ? a > b : a == b;
            };
        }

        Sum sum(int deep) {
            Sum left = term(deep);
            while (peek().equals("+") || peek().equals("-")) {
                left = joined(left, tokens.get(next++), term(deep));
            }
            return left;
        }

        Sum term(int deep) {
            Sum left = part(deep);
            while (peek().equals("*") || peek().equals("/") || peek().equals("%")) {
                left = joined(left, tokens.get(next++), part(deep));
            }
            return left;
        }

        Sum joined(Sum left, String op, Sum right) {
            return about -> {
                long a = left.of(about);
                long b = right.of(about);
                if (b == 0 && (op.equals("/") || op.equals("%"))) {
                    throw new Broken();
                }
                long made = op.equals("+") ? a + b : op.equals("-") ? a - b : op.equals("*") ? a * b : op.equals("/") ? a / b : a % b;
                if (Math.abs(made) > 1000000000L) {
                    throw new Broken();
                }
                return made;
            };
        }

        Sum part(int deep) {
            if (peek().equals("[")) {
                if (deep == 8) {
                    throw fault();
                }
                next++;
                Sum inner = sum(deep + 1);
                need("]");
                return inner;
            }
            int word = Arrays.asList("cell", "hour", "day", "strike", "pumped", "mills", "natural", "down", "year").indexOf(peek());
            boolean isNumber = peek().matches("0*[0-9]{1,4}") && Integer.parseInt(peek()) <= 1000;
            if (parts == 50 || word < 0 && !isNumber) {
                throw fault();
            }
            parts++;
            String token = tokens.get(next++);
            return about -> isNumber ? Integer.parseInt(token) : about[word];
        }
    }

    /** All that an image keeps. */
    private static final class Kept {
        int[][] pumps = {{0, 23, 0, 0, 0}, {0, 23, 0, 0, 0}};
        boolean[] strikes = new boolean[96];
        int natural = 1;
        int year = 0;
        int inForce = NONE;
        List<List<Clause>> laws = new ArrayList<>();
        List<int[]> gates = new ArrayList<>();
        List<int[]> mills = new ArrayList<>();
        List<int[]> boats = new ArrayList<>();
        List<int[]> pours = new ArrayList<>();
        List<int[]> sights = new ArrayList<>();
        List<int[]> jobs = new ArrayList<>();
        List<int[]> wishes = new ArrayList<>();

        static List<int[]> rows(List<int[]> from) {
            List<int[]> copy = new ArrayList<>();
            for (int[] row : from) {
                copy.add(row.clone());
            }
            return copy;
        }

        Kept copy() {
            Kept k = new Kept();
            k.pumps = new int[][] {pumps[0].clone(), pumps[1].clone()};
            k.strikes = strikes.clone();
            k.natural = natural;
            k.year = year;
            k.inForce = inForce;
            k.laws = new ArrayList<>(laws);
            k.gates = rows(gates);
            k.mills = rows(mills);
            k.boats = rows(boats);
            k.pours = rows(pours);
            k.sights = rows(sights);
            k.jobs = rows(jobs);
            k.wishes = rows(wishes);
            return k;
        }
    }

    private Kept k = new Kept();
    private final Kept[] images = new Kept[2];
    private final StringBuilder tape = new StringBuilder();
    private int fault = NONE;
    private int foam = 0;
    private int status = 0;
    private final int[] refused = new int[7];
    private int[] drawn = null;
    private final int[][][] known = new int[96][25][];

    private static boolean in(int x, int low, int high) {
        return x >= low && x <= high;
    }

    private void changed() {
        for (int[][] steps : known) {
            Arrays.fill(steps, null);
        }
    }

    private int no(int by) {
        status = by;
        refused[-by]++;
        return by;
    }

    private int yes(int answer) {
        status = 0;
        changed();
        return answer;
    }

    // How it flows.

    private int[] about(int cell, int hour, int down) {
        int pumped = 0;
        for (int[] p : k.pumps) {
            boolean isOn = false;
            int clock = p[2];
            do {
                isOn |= clock == hour % 24;
                clock = (clock + 1) % 24;
            } while (clock != p[3]);
            pumped += isOn && in(cell, p[0], p[1]) && !k.strikes[hour] ? p[4] : 0;
        }
        int mills = 0;
        for (int[] mill : k.mills) {
            mills += mill[0] == cell ? 1 : 0;
        }
        return new int[] {cell, hour % 24, hour / 24, k.strikes[hour] ? 1 : 0, pumped, mills, k.natural, down, k.year};
    }

    private Long told(String kind, int[] about) {
        Long last = null;
        if (k.inForce != NONE) {
            for (Clause clause : k.laws.get(k.inForce)) {
                Long worth = clause.kind.equals(kind) ? clause.holds(about) : null;
                last = worth != null ? worth : last;
            }
        }
        return last;
    }

    private static int nearest(Long told, long without, int low, int high) {
        long x = told == null ? without : told;
        return (int) (x < low ? low : x > high ? high : x);
    }

    private int flowAt(int cell, int hour) {
        int[] about = about(cell, hour, -1);
        return nearest(told("flows", about), k.natural - about[4], -6, 6);
    }

    private boolean isBarred(int cell, int hour) {
        return told("bars", about(cell, hour, -1)) != null;
    }

    private int costAt(int cell, int hour) {
        return nearest(told("costs", about(cell, hour, -1)), 1, 0, 999);
    }

    private int tollAt(int cell, int hour, int down) {
        return nearest(told("tolls", about(cell, hour, down)), 0, 0, 99);
    }

    private boolean isShut(int cell, int hour) {
        for (int[] gate : k.gates) {
            if (gate[0] == cell && in(hour, gate[1], gate[2])) {
                return true;
            }
        }
        return false;
    }

    /** Where it is an hour later, and what that is tolled. */
    private int[] step(int cell, int hour) {
        if (known[hour][cell] == null) {
            known[hour][cell] = newStep(cell, hour);
        }
        return known[hour][cell];
    }

    private int[] newStep(int cell, int hour) {
        int toll = 0;
        int at = cell;
        int flow = cell == 24 ? 0 : flowAt(cell, hour);
        for (int i = 0; i < Math.abs(flow); i++) {
            if (flow > 0 && at < 24 && !isShut(at, hour)) {
                toll += tollAt(at, hour, 1);
                at++;
            }
            if (flow < 0 && at > 0 && !isShut(at - 1, hour)) {
                toll += tollAt(at, hour, 0);
                at--;
            }
        }
        return new int[] {at, toll};
    }

    private int float_(int cell, int hour, int till) {
        int at = cell;
        for (int h = hour; h < till; h++) {
            at = step(at, h)[0];
        }
        return at;
    }

    // The calls.

    public int pump(int pump, int a, int b, int c, int d, int strong) {
        if (!in(a, 0, 23) || !in(b, a, 23) || !in(c, 0, 23) || !in(d, 0, 23) || !in(strong, 0, 6)) {
            return no(-1);
        }
        if (!in(pump, 0, 1)) {
            return no(-2);
        }
        k.pumps[pump] = new int[] {a, b, c, d, strong};
        return yes(0);
    }

    public int of(int pump, int what) {
        return in(pump, 0, 1) && in(what, 0, 4) ? k.pumps[pump][what] : NONE;
    }

    public int strike(int from, int till, int is) {
        if (!in(from, 0, 95) || !in(till, from, 95) || !in(is, 0, 1)) {
            return no(-1);
        }
        int changed = 0;
        for (int h = from; h <= till; h++) {
            changed += k.strikes[h] != (is == 1) ? 1 : 0;
            k.strikes[h] = is == 1;
        }
        return yes(changed);
    }

    private int add(List<int[]> rows, int room, boolean can, int... row) {
        if (!can) {
            return no(-1);
        }
        if (rows.size() == room) {
            return no(-5);
        }
        rows.add(row);
        return yes(rows.size() - 1);
    }

    public int gate(int cell, int from, int till) {
        return add(k.gates, 8, in(cell, 0, 23) && in(from, 0, 95) && in(till, from, 95), cell, from, till);
    }

    public int open(int gate) {
        if (!in(gate, 0, k.gates.size() - 1)) {
            return no(-2);
        }
        k.gates.remove(gate);
        return yes(k.gates.size());
    }

    public int mill(int cell) {
        return add(k.mills, 6, in(cell, 0, 23), cell);
    }

    public int grinds(int mill, int from, int till) {
        if (!in(mill, 0, k.mills.size() - 1) || !in(from, 0, 95) || !in(till, from, 95)) {
            return NONE;
        }
        int all = 0;
        for (int h = from; h <= till; h++) {
            all += Math.abs(flowAt(k.mills.get(mill)[0], h));
        }
        return all;
    }

    public int terms(int what, int value) {
        if (what == 0 && in(value, -3, 3)) {
            int was = k.natural;
            k.natural = value;
            return yes(was);
        }
        if (what == 1 && in(value, 0, 99)) {
            int was = k.year;
            k.year = value;
            return yes(was);
        }
        no(-1);
        return NOTHING;
    }

    public int feed(int a, int b, int c, int d, int e) {
        if (tape.length() > 380) {
            return NONE;
        }
        for (int x : new int[] {a, b, c, d, e}) {
            tape.append((char) (x >>> 24)).append((char) (x >>> 16 & 255)).append((char) (x >>> 8 & 255)).append((char) (x & 255));
        }
        return tape.length();
    }

    public int end(int n) {
        if (!in(n, 0, tape.length())) {
            return NONE;
        }
        tape.setLength(n);
        return n;
    }

    public int row() {
        if (tape.length() == 0) {
            return no(-6);
        }
        int came = 0;
        foam = 0;
        for (int i = 0; i < tape.length(); i += 4) {
            boolean can = i + 4 <= tape.length() && in(tape.charAt(i), 0, 23) && in(tape.charAt(i + 1), 0, 95)
                && in(tape.charAt(i + 2), 0, 3) && in(tape.charAt(i + 3), 1, 99) && k.pours.size() < 16
                && !isBarred(tape.charAt(i), tape.charAt(i + 1));
            if (can) {
                k.pours.add(new int[] {tape.charAt(i), tape.charAt(i + 1), tape.charAt(i + 2), tape.charAt(i + 3)});
                came++;
            } else {
                foam++;
            }
        }
        tape.setLength(0);
        return yes(came);
    }

    public int foam() {
        return foam;
    }

    public int law() {
        String text = tape.toString();
        tape.setLength(0);
        if (k.laws.size() == 6) {
            return no(-5);
        }
        try {
            k.laws.add(new Text(text).read());
            fault = NONE;
            return yes(k.laws.size() - 1);
        } catch (Fault f) {
            fault = f.place;
            return no(-6);
        }
    }

    public int fault() {
        return fault;
    }

    public int force(int law) {
        if (!in(law, -1, k.laws.size() - 1)) {
            return no(-2);
        }
        int was = k.inForce;
        k.inForce = law;
        return yes(was);
    }

    public int flow(int cell, int hour) {
        return in(cell, 0, 23) && in(hour, 0, 95) ? flowAt(cell, hour) : NOTHING;
    }

    public int asks(int cell, int hour, int what) {
        if (!in(cell, 0, 23) || !in(hour, 0, 95) || !in(what, 0, 3)) {
            return NONE;
        }
        return what == 0 ? costAt(cell, hour) : what == 1 ? isBarred(cell, hour) ? 1 : 0 : tollAt(cell, hour, 3 - what);
    }

    public int where(int cell, int hour, int till) {
        return in(cell, 0, 23) && in(hour, 0, 95) && in(till, hour, 96) ? float_(cell, hour, till) : NONE;
    }

    public int below(int cell, int hour, int n) {
        if (!in(cell, 0, 23) || !in(hour, 0, 95) || !in(n, 0, 96)) {
            return NONE;
        }
        int bits = 0;
        int at = cell;
        for (int h = hour; h <= hour + n && h <= 96; h++) {
            bits |= 1 << at;
            at = h < 96 ? step(at, h)[0] : at;
        }
        return bits;
    }

    public int sources(int cell, int hour, int from) {
        if (!in(cell, 0, 24) || !in(hour, 0, 95) || !in(from, 0, hour)) {
            return NONE;
        }
        int bits = 0;
        for (int c = 0; c < 24; c++) {
            bits |= float_(c, from, hour) == cell ? 1 << c : 0;
        }
        return bits;
    }

    public int boat(int cell, int hour) {
        return add(k.boats, 6, in(cell, 0, 23) && in(hour, 0, 95), cell, hour, -7, -7);
    }

    public int moor(int boat, int from, int till) {
        if (!in(from, 0, 95) || !in(till, from, 95)) {
            return no(-1);
        }
        if (!in(boat, 0, k.boats.size() - 1)) {
            return no(-2);
        }
        k.boats.get(boat)[2] = from;
        k.boats.get(boat)[3] = till;
        return yes(0);
    }

    /** Where a boat is at the beginning of an hour, and its toll. */
    private int[] sailed(int boat, int hour) {
        int[] b = k.boats.get(boat);
        int at = b[0];
        int toll = 0;
        for (int h = b[1]; h < hour; h++) {
            if (!in(h, b[2], b[3])) {
                int[] step = step(at, h);
                at = step[0];
                toll += step[1];
            }
        }
        return new int[] {at, toll};
    }

    public int sails(int boat, int hour, int what) {
        if (!in(boat, 0, k.boats.size() - 1) || !in(hour, k.boats.get(boat)[1], 95) || !in(what, 0, 1)) {
            return NONE;
        }
        return sailed(boat, hour)[what];
    }

    public int meet(int one, int other, int what) {
        if (!in(one, 0, k.boats.size() - 1) || !in(other, 0, k.boats.size() - 1) || one == other || !in(what, 0, 1)) {
            return NONE;
        }
        for (int h = 0; h <= 96; h++) {
            if (h >= k.boats.get(one)[1] && h >= k.boats.get(other)[1]) {
                int at = sailed(one, h)[0];
                if (at != 24 && at == sailed(other, h)[0]) {
                    return what == 0 ? h : at;
                }
            }
        }
        return NONE;
    }

    public int pour(int cell, int hour, int colour, int amount) {
        if (!in(cell, 0, 23) || !in(hour, 0, 95) || !in(colour, 0, 3) || !in(amount, 1, 99)) {
            return no(-1);
        }
        return isBarred(cell, hour) ? no(-3) : add(k.pours, 16, true, cell, hour, colour, amount);
    }

    public int undo() {
        if (k.pours.isEmpty()) {
            return no(-3);
        }
        k.pours.remove(k.pours.size() - 1);
        return yes(k.pours.size());
    }

    private int amount(int cell, int hour, int colour) {
        int all = 0;
        for (int[] p : k.pours) {
            all += p[2] == colour && p[1] <= hour && float_(p[0], p[1], hour) == cell ? p[3] : 0;
        }
        return all;
    }

    public int dye(int cell, int hour, int colour) {
        return in(cell, 0, 24) && in(hour, 0, 96) && in(colour, 0, 3) ? amount(cell, hour, colour) : NONE;
    }

    public int comes(int cell, int colour, int hour) {
        if (in(cell, 0, 24) && in(colour, 0, 3) && in(hour, 0, 96)) {
            for (int h = hour; h <= 96; h++) {
                if (amount(cell, h, colour) > 0) {
                    return h;
                }
            }
        }
        return NONE;
    }

    public int most(int hour, int colour, int what) {
        if (!in(hour, 0, 95) || !in(colour, 0, 3) || !in(what, 0, 1)) {
            return NONE;
        }
        int some = 0;
        int most = NONE;
        for (int c = 23; c >= 0; c--) {
            int here = amount(c, hour, colour);
            some += here > 0 ? 1 : 0;
            most = here > 0 && (most == NONE || here >= amount(most, hour, colour)) ? c : most;
        }
        return what == 0 ? most : some;
    }

    public int least(int cell, int a, int b, int hour, int what) {
        if (!in(cell, 0, 24) || !in(a, 0, 96) || !in(b, a, 96) || !in(hour, 0, 95) || !in(what, 0, 3)) {
            return NONE;
        }
        List<int[]> throwsThere = new ArrayList<>();
        for (int h = hour; h < 96; h++) {
            for (int c = 0; c < 24; c++) {
                int at = c;
                int there = NONE;
                for (int t = h; t <= b && there == NONE; t++) {
                    there = at == cell && t >= a ? t : NONE;
                    at = t < 96 ? step(at, t)[0] : at;
                }
                if (there != NONE && !isBarred(c, h)) {
                    throwsThere.add(new int[] {costAt(c, h), c, h, there});
                }
            }
        }
        throwsThere.sort((x, y) -> x[0] != y[0] ? x[0] - y[0] : x[3] != y[3] ? x[3] - y[3] : x[2] != y[2] ? x[2] - y[2] : x[1] - y[1]);
        return throwsThere.isEmpty() ? NONE : throwsThere.get(0)[what];
    }

    public int sight(int cell, int hour, int colour, int is) {
        boolean can = in(cell, 0, 23) && in(hour, 0, 96) && in(colour, 0, 3) && in(is, 0, 1);
        int number = add(k.sights, 10, can, cell, hour, colour, is);
        return number < 0 ? number : number + 1;
    }

    private static int emptied(List<int[]> rows) {
        int size = rows.size();
        rows.clear();
        return size;
    }

    public int forget() {
        return emptied(k.sights);
    }

    public int so(int i) {
        if (!in(i, 0, k.sights.size() - 1)) {
            return NONE;
        }
        int[] s = k.sights.get(i);
        return (amount(s[0], s[1], s[2]) > 0 ? 1 : 0) == s[3] ? 1 : 0;
    }

    /** For each pour that could have been, by hours, then cells: at which sights of the colour it is there. */
    private List<boolean[]> couldBe(int colour, List<int[]> sights) {
        for (int[] s : k.sights) {
            if (s[2] == colour) {
                sights.add(s);
            }
        }
        List<boolean[]> all = new ArrayList<>();
        for (int h = 0; h < 96; h++) {
            for (int c = 0; c < 24; c++) {
                boolean[] there = new boolean[sights.size()];
                for (int i = 0; i < there.length; i++) {
                    int[] s = sights.get(i);
                    there[i] = h <= s[1] && float_(c, h, s[1]) == s[0];
                }
                all.add(there);
            }
        }
        return all;
    }

    private static boolean explain(boolean[] one, boolean[] other, List<int[]> sights) {
        for (int i = 0; i < one.length; i++) {
            if ((one[i] || other[i]) != (sights.get(i)[3] == 1)) {
                return false;
            }
        }
        return true;
    }

    public int suspects(int colour, int i) {
        if (!in(colour, 0, 3) || i < NONE) {
            return NONE;
        }
        List<int[]> sights = new ArrayList<>();
        List<boolean[]> all = couldBe(colour, sights);
        List<Integer> found = new ArrayList<>();
        for (int p = 0; p < all.size(); p++) {
            if (explain(all.get(p), all.get(p), sights)) {
                found.add(p);
            }
        }
        return i == NONE ? found.size() : i < found.size() ? found.get(i) : NONE;
    }

    public int pairs(int colour) {
        if (!in(colour, 0, 3)) {
            return NONE;
        }
        List<int[]> sights = new ArrayList<>();
        List<boolean[]> all = couldBe(colour, sights);
        int found = 0;
        for (int p = 0; p < all.size(); p++) {
            for (int q = 0; q < p; q++) {
                found += explain(all.get(p), all.get(q), sights) ? 1 : 0;
            }
        }
        return found;
    }

    public int job(int cell, int longs, int hour) {
        int number = add(k.jobs, 6, in(cell, 0, 23) && in(longs, 1, 6) && in(hour, 0, 95), cell, longs, hour);
        return number < 0 ? number : number + 1;
    }

    public int hang() {
        return emptied(k.jobs);
    }

    private void orders(List<Integer> order, List<List<Integer>> all) {
        if (order.size() == k.jobs.size()) {
            all.add(new ArrayList<>(order));
        }
        for (int j = 0; j < k.jobs.size(); j++) {
            if (!order.contains(j)) {
                order.add(j);
                orders(order, all);
                order.remove(order.size() - 1);
            }
        }
    }

    public int laundry(int what) {
        boolean[][] tinted = new boolean[96][24];
        for (int[] p : k.pours) {
            int at = p[0];
            for (int h = p[1]; h < 96 && at < 24; h++) {
                tinted[h][at] = true;
                at = step(at, h)[0];
            }
        }
        List<List<Integer>> all = new ArrayList<>();
        orders(new ArrayList<>(), all);
        int done = 97;
        int alike = 0;
        List<Integer> best = null;
        List<Integer> begins = null;
        for (List<Integer> order : all) {
            List<Integer> starts = new ArrayList<>();
            int hour = 0;
            for (int j : order) {
                int[] job = k.jobs.get(j);
                int start = Math.max(hour, job[2]);
                while (start + job[1] <= 96 && isTinted(tinted, job[0], start, job[1])) {
                    start++;
                }
                starts.add(start);
                hour = start + job[1];
            }
            alike = hour < done ? 0 : alike;
            if (hour < done && hour <= 96) {
                done = hour;
                best = order;
                begins = starts;
            }
            alike += hour == done ? 1 : 0;
        }
        if (what == 1) {
            return done > 96 ? 0 : alike;
        }
        if (done > 96) {
            return NONE;
        }
        if (what == 0) {
            return done;
        }
        int n = k.jobs.size();
        return in(what, 2, 1 + Math.min(n, 6)) ? best.get(what - 2) : in(what, 8, 7 + n) ? begins.get(what - 8) : NONE;
    }

    private static boolean isTinted(boolean[][] tinted, int cell, int from, int longs) {
        for (int h = from; h < from + longs; h++) {
            if (tinted[h][cell]) {
                return true;
            }
        }
        return false;
    }

    public int lovers(int one, int other, int hour, int what) {
        if (!in(one, 0, 23) || !in(other, 0, 23) || !in(hour, 0, 96) || !in(what, 0, 1)) {
            return NONE;
        }
        if (one == other) {
            return hour;
        }
        int answer = 97;
        int latest = NONE;
        for (int t = hour; t < 96; t++) {
            int s = isBarred(one, t) ? 97 : arrival(one, t, other);
            for (int u = s; u < 96; u++) {
                int v = isBarred(other, u) ? 97 : arrival(other, u, one);
                if (v <= 96 && v <= answer) {
                    answer = v;
                    latest = t;
                }
            }
        }
        return answer > 96 ? NONE : what == 0 ? answer : latest;
    }

    private int arrival(int from, int hour, int to) {
        int at = from;
        for (int h = hour; h <= 96; h++) {
            if (at == to) {
                return h;
            }
            at = h < 96 ? step(at, h)[0] : at;
        }
        return 97;
    }

    public int duck(int cell, int day, int what) {
        if (!in(cell, 0, 23) || !in(day, 0, 3) || !in(what, 0, 1)) {
            return NONE;
        }
        List<Integer> begun = new ArrayList<>();
        int at = cell;
        while (!begun.contains(at)) {
            begun.add(at);
            at = float_(at, day * 24, day * 24 + 24);
        }
        return what == 0 ? begun.size() : begun.size() - begun.indexOf(at);
    }

    public int matters(int cell, int hour, int till, int i) {
        if (!in(cell, 0, 23) || !in(hour, 0, 95) || !in(till, hour, 95) || i < NONE) {
            return NONE;
        }
        int end = float_(cell, hour, till);
        List<Integer> found = new ArrayList<>();
        for (int h = 0; h < 96; h++) {
            k.strikes[h] = !k.strikes[h];
            changed();
            if (float_(cell, hour, till) != end) {
                found.add(h);
            }
            k.strikes[h] = !k.strikes[h];
            changed();
        }
        return i == NONE ? found.size() : i < found.size() ? found.get(i) : NONE;
    }

    public int wish(int cell, int hour, int to, int at) {
        boolean can = in(cell, 0, 23) && in(hour, 0, 95) && in(to, 0, 24) && in(at, hour, 95);
        int number = add(k.wishes, 6, can, cell, hour, to, at);
        return number < 0 ? number : number + 1;
    }

    public int drop() {
        return emptied(k.wishes);
    }

    public int granted() {
        int bits = 0;
        for (int i = 0; i < k.wishes.size(); i++) {
            int[] w = k.wishes.get(i);
            bits |= float_(w[0], w[1], w[3]) == w[2] ? 1 << i : 0;
        }
        return bits;
    }

    private int[] bestOf(int pump) {
        int[] told = k.pumps[pump];
        int[] best = {NONE, NONE, NONE};
        for (int n = 1; n <= 6; n++) {
            for (int c = 0; c < 24; c++) {
                k.pumps[pump] = new int[] {told[0], told[1], c, (c + n) % 24, told[4]};
                changed();
                int so = Integer.bitCount(granted());
                if (so > best[0]) {
                    best = new int[] {so, c, n};
                }
            }
        }
        k.pumps[pump] = told;
        changed();
        return best;
    }

    public int best(int pump, int what) {
        return in(pump, 0, 1) && in(what, 0, 2) ? bestOf(pump)[what] : NONE;
    }

    public int set(int pump) {
        if (!in(pump, 0, 1)) {
            return no(-2);
        }
        int[] best = bestOf(pump);
        k.pumps[pump][2] = best[1];
        k.pumps[pump][3] = (best[1] + best[2]) % 24;
        changed();
        return yes(Integer.bitCount(granted()));
    }

    public int week(int seed, int rate) {
        if (!in(seed, 0, 1000000) || !in(rate, 0, 100)) {
            return no(-1);
        }
        boolean[] told = k.strikes;
        k.strikes = new boolean[96];
        long s = seed;
        int strikes = 0;
        for (int h = 0; h < 96; h++) {
            s = (s * 1103 + 12345) % 1000003;
            k.strikes[h] = s % 100 < rate;
            strikes += k.strikes[h] ? 1 : 0;
        }
        changed();
        drawn = new int[24];
        for (int c = 0; c < 24; c++) {
            drawn[c] = float_(c, 0, 96);
        }
        k.strikes = told;
        return yes(strikes);
    }

    public int drawn(int cell) {
        return drawn != null && in(cell, 0, 23) ? drawn[cell] : NONE;
    }

    public int image(int i) {
        if (!in(i, 0, 1)) {
            return no(-1);
        }
        images[i] = k.copy();
        return yes(0);
    }

    public int back(int i) {
        if (!in(i, 0, 1)) {
            return no(-1);
        }
        if (images[i] == null) {
            return no(-2);
        }
        k = images[i].copy();
        return yes(0);
    }

    public int count(int what) {
        int strikes = 0;
        for (boolean strike : k.strikes) {
            strikes += strike ? 1 : 0;
        }
        int[] all = {k.laws.size(), strikes, k.gates.size(), k.mills.size(), k.boats.size(), k.pours.size(), k.sights.size(),
            k.jobs.size(), k.wishes.size(), tape.length(), refused[1], refused[2], refused[3], refused[5], refused[6], k.inForce};
        return in(what, 0, 15) ? all[what] : NONE;
    }

    public int status() {
        return status;
    }
}
