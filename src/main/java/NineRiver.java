import java.util.Arrays;

/**
 * A river that pumps turn back by the clock. DOC.md's promises say what each call answers; the words
 * CELL, HOUR, FLOW and so on are that document's.
 */
public final class NineRiver {
    public static final int NONE = -1;
    public static final int NOTHING = -1000;

    private static final int CELLS = 24;
    private static final int SEA = 24;
    private static final int HOURS = 96;
    private static final int DAY_LONG = 24;
    private static final int SPOTS = CELLS * HOURS;
    private static final int COLOURS = 4;
    private static final int PUMPS = 2;
    private static final int PUMP_PARTS = 5;
    private static final int LAWS = 6;
    private static final int IMAGES = 2;
    private static final int TAPE_ROOM = 400;

    private static final int WRONG_NUMBER = -1;
    private static final int NO_SUCH = -2;
    private static final int NOT_NOW = -3;
    private static final int NO_ROOM = -5;
    private static final int BAD_TEXT = -6;

    private final State state = new State();
    // An image is null until it is kept.
    private final State[] images = new State[IMAGES];
    private final int[] tape = new int[TAPE_ROOM];
    private final int[] refusals = new int[5];
    private final int[] landed = new int[CELLS];
    private final Reader reader = new Reader();
    private final Stream stream = new Stream(state);
    private final Travel travel = new Travel(state, stream);
    private final Dyes dyes = new Dyes(state, stream, travel);
    private final Sleuth sleuth = new Sleuth(state, travel);
    private final Thrower thrower = new Thrower(stream);
    private final Tuner tuner = new Tuner(state, stream, travel);
    private int tapeSize = 0;
    private int faultAt = NONE;
    private int foamed = 0;
    private int refusedBy = 0;
    private boolean hasWeek = false;

    public NineRiver() {
    }

    public int pump(int pump, int a, int b, int c, int d, int strong) {
        if (!isCell(a) || !isCell(b) || b < a || !isClock(c) || !isClock(d) || strong < 0 || strong > 6) {
            return refuse(WRONG_NUMBER);
        }
        if (!isPump(pump)) {
            return refuse(NO_SUCH);
        }
        state.tellPump(pump, a, b, c, d, strong);
        turnRiver();
        return accept(0);
    }

    public int of(int pump, int what) {
        return isPump(pump) && what >= 0 && what < PUMP_PARTS ? state.pumpPart(pump, what) : NONE;
    }

    public int strike(int from, int till, int is) {
        if (!isSpan(from, till) || !isFlag(is)) {
            return refuse(WRONG_NUMBER);
        }
        int changed = state.tellStrikes(from, till, is);
        if (changed > 0) {
            turnRiver();
        }
        return accept(changed);
    }

    public int gate(int cell, int from, int till) {
        if (!isCell(cell) || !isSpan(from, till)) {
            return refuse(WRONG_NUMBER);
        }
        if (state.gates.isFull()) {
            return refuse(NO_ROOM);
        }
        turnRiver();
        return accept(state.gates.put(cell, from, till, 0));
    }

    public int open(int gate) {
        if (!state.gates.has(gate)) {
            return refuse(NO_SUCH);
        }
        state.gates.takeOut(gate);
        turnRiver();
        return accept(state.gates.size());
    }

    public int mill(int cell) {
        if (!isCell(cell)) {
            return refuse(WRONG_NUMBER);
        }
        if (state.mills.isFull()) {
            return refuse(NO_ROOM);
        }
        turnRiver();
        return accept(state.mills.put(cell, 0, 0, 0));
    }

    public int grinds(int mill, int from, int till) {
        if (!state.mills.has(mill) || !isSpan(from, till)) {
            return NONE;
        }
        return stream.turns(state.mills.at(mill, 0), from, till);
    }

    public int terms(int what, int value) {
        boolean isNatural = what == 0 && value >= -3 && value <= 3;
        boolean isYear = what == 1 && value >= 0 && value <= 99;
        if (!isNatural && !isYear) {
            refuse(WRONG_NUMBER);
            return NOTHING;
        }
        int was = isNatural ? state.natural : state.year;
        if (isNatural) {
            state.natural = value;
        } else {
            state.year = value;
        }
        turnRiver();
        return accept(was);
    }

    public int feed(int a, int b, int c, int d, int e) {
        if (tapeSize + 20 > TAPE_ROOM) {
            return NONE;
        }
        write(a);
        write(b);
        write(c);
        write(d);
        write(e);
        return tapeSize;
    }

    public int end(int n) {
        if (n < 0 || n > tapeSize) {
            return NONE;
        }
        tapeSize = n;
        return n;
    }

    public int row() {
        if (tapeSize == 0) {
            return refuse(BAD_TEXT);
        }
        int came = 0;
        int gone = 0;
        for (int at = 0; at < tapeSize; at += 4) {
            if (pourFromTape(at)) {
                came++;
            } else {
                gone++;
            }
        }
        tapeSize = 0;
        foamed = gone;
        turnLists();
        return accept(came);
    }

    public int foam() {
        return foamed;
    }

    public int law() {
        int length = tapeSize;
        tapeSize = 0;
        if (state.lawCount >= LAWS) {
            return refuse(NO_ROOM);
        }
        Law read = reader.read(tape, length);
        faultAt = read == null ? reader.stoppedAt() : NONE;
        if (read == null) {
            return refuse(BAD_TEXT);
        }
        return accept(state.keepLaw(read));
    }

    public int fault() {
        return faultAt;
    }

    public int force(int law) {
        if (law < NONE || law >= state.lawCount) {
            return refuse(NO_SUCH);
        }
        int was = state.inForce;
        state.inForce = law;
        turnRiver();
        return accept(was);
    }

    public int flow(int cell, int hour) {
        return isCell(cell) && isHour(hour) ? stream.flowAt(cell, hour) : NOTHING;
    }

    public int asks(int cell, int hour, int what) {
        if (!isCell(cell) || !isHour(hour)) {
            return NONE;
        }
        switch (what) {
            case 0:
                return stream.costAt(cell, hour);
            case 1:
                return stream.isBarred(cell, hour) ? 1 : 0;
            case 2:
                return stream.tollAt(cell, hour, 1);
            case 3:
                return stream.tollAt(cell, hour, 0);
            default:
                return NONE;
        }
    }

    public int where(int cell, int hour, int till) {
        if (!isCell(cell) || !isHour(hour) || !isMoment(till) || till < hour) {
            return NONE;
        }
        return travel.drift(cell, hour, till);
    }

    public int below(int cell, int hour, int n) {
        if (!isCell(cell) || !isHour(hour) || !isMoment(n)) {
            return NONE;
        }
        return travel.downstream(cell, hour, Math.min(hour + n, HOURS));
    }

    public int sources(int cell, int hour, int from) {
        if (!isPlace(cell) || !isHour(hour) || !isHour(from) || from > hour) {
            return NONE;
        }
        return travel.traceBack(cell, hour, from);
    }

    public int boat(int cell, int hour) {
        if (!isCell(cell) || !isHour(hour)) {
            return refuse(WRONG_NUMBER);
        }
        if (state.boats.isFull()) {
            return refuse(NO_ROOM);
        }
        // Moored from 0 till -1: in no hour.
        return accept(state.boats.put(cell, hour, 0, -1));
    }

    public int moor(int boat, int from, int till) {
        if (!isSpan(from, till)) {
            return refuse(WRONG_NUMBER);
        }
        if (!state.boats.has(boat)) {
            return refuse(NO_SUCH);
        }
        state.boats.change(boat, 2, from);
        state.boats.change(boat, 3, till);
        return accept(0);
    }

    public int sails(int boat, int hour, int what) {
        if (!state.boats.has(boat) || !isHour(hour) || hour < state.boats.at(boat, 1) || !isFlag(what)) {
            return NONE;
        }
        return what == 0 ? travel.boatAt(boat, hour) : travel.tollTill(boat, hour);
    }

    public int meet(int one, int other, int what) {
        if (!state.boats.has(one) || !state.boats.has(other) || one == other || !isFlag(what)) {
            return NONE;
        }
        int hour = travel.meeting(one, other);
        return hour == NONE || what == 0 ? hour : travel.boatAt(one, hour);
    }

    public int pour(int cell, int hour, int colour, int amount) {
        if (!isPour(cell, hour, colour, amount)) {
            return refuse(WRONG_NUMBER);
        }
        if (stream.isBarred(cell, hour)) {
            return refuse(NOT_NOW);
        }
        if (state.pours.isFull()) {
            return refuse(NO_ROOM);
        }
        turnLists();
        return accept(state.pours.put(cell, hour, colour, amount));
    }

    public int undo() {
        int size = state.pours.size();
        if (size == 0) {
            return refuse(NOT_NOW);
        }
        state.pours.takeOut(size - 1);
        turnLists();
        return accept(size - 1);
    }

    public int dye(int cell, int hour, int colour) {
        return isPlace(cell) && isMoment(hour) && isColour(colour) ? dyes.amountAt(cell, hour, colour) : NONE;
    }

    public int comes(int cell, int colour, int hour) {
        return isPlace(cell) && isColour(colour) && isMoment(hour) ? dyes.firstComing(cell, colour, hour) : NONE;
    }

    public int most(int hour, int colour, int what) {
        if (!isHour(hour) || !isColour(colour) || !isFlag(what)) {
            return NONE;
        }
        dyes.spread(hour, colour);
        return what == 0 ? dyes.fullest() : dyes.coloured();
    }

    public int least(int cell, int a, int b, int hour, int what) {
        if (!isPlace(cell) || !isMoment(a) || !isMoment(b) || a > b || !isHour(hour) || what < 0 || what > 3) {
            return NONE;
        }
        return thrower.cheapest(cell, a, b, hour, what);
    }

    public int sight(int cell, int hour, int colour, int is) {
        if (!isCell(cell) || !isMoment(hour) || !isColour(colour) || !isFlag(is)) {
            return refuse(WRONG_NUMBER);
        }
        if (state.sights.isFull()) {
            return refuse(NO_ROOM);
        }
        state.sights.put(cell, hour, colour, is);
        turnLists();
        return accept(state.sights.size());
    }

    public int forget() {
        turnLists();
        return state.sights.clear();
    }

    public int so(int i) {
        if (!state.sights.has(i)) {
            return NONE;
        }
        int there = dyes.amountAt(state.sights.at(i, 0), state.sights.at(i, 1), state.sights.at(i, 2));
        boolean isSeen = state.sights.at(i, 3) == 1;
        return there > 0 == isSeen ? 1 : 0;
    }

    public int suspects(int colour, int i) {
        if (!isColour(colour) || i < NONE) {
            return NONE;
        }
        return i == NONE ? sleuth.countAlone(colour) : sleuth.findAlone(colour, i);
    }

    public int pairs(int colour) {
        return isColour(colour) ? sleuth.countTogether(colour) : NONE;
    }

    public int job(int cell, int longs, int hour) {
        if (!isCell(cell) || longs < 1 || longs > 6 || !isHour(hour)) {
            return refuse(WRONG_NUMBER);
        }
        if (state.jobs.isFull()) {
            return refuse(NO_ROOM);
        }
        state.jobs.put(cell, longs, hour, 0);
        turnLists();
        return accept(state.jobs.size());
    }

    public int hang() {
        turnLists();
        return state.jobs.clear();
    }

    public int laundry(int what) {
        return what < 0 || what > 13 ? NONE : dyes.washing(what);
    }

    public int lovers(int one, int other, int hour, int what) {
        if (!isCell(one) || !isCell(other) || !isMoment(hour) || !isFlag(what)) {
            return NONE;
        }
        return one == other ? hour : thrower.answer(one, other, hour, what);
    }

    public int duck(int cell, int day, int what) {
        return isCell(cell) && day >= 0 && day < HOURS / DAY_LONG && isFlag(what) ? travel.paddle(cell, day, what) : NONE;
    }

    public int matters(int cell, int hour, int till, int i) {
        if (!isCell(cell) || !isSpan(hour, till) || i < NONE) {
            return NONE;
        }
        return travel.turningHours(cell, hour, till, i);
    }

    public int wish(int cell, int hour, int to, int at) {
        if (!isCell(cell) || !isPlace(to) || !isSpan(hour, at)) {
            return refuse(WRONG_NUMBER);
        }
        if (state.wishes.isFull()) {
            return refuse(NO_ROOM);
        }
        state.wishes.put(cell, hour, to, at);
        turnLists();
        return accept(state.wishes.size());
    }

    public int drop() {
        turnLists();
        return state.wishes.clear();
    }

    public int granted() {
        return tuner.grantedNow();
    }

    public int best(int pump, int what) {
        if (!isPump(pump)) {
            return NONE;
        }
        tuner.tune(pump);
        return tuner.tuned(what);
    }

    public int set(int pump) {
        if (!isPump(pump)) {
            return refuse(NO_SUCH);
        }
        tuner.tune(pump);
        int clock = tuner.tuned(1);
        state.tellClocks(pump, clock, (clock + tuner.tuned(2)) % DAY_LONG);
        turnRiver();
        return accept(tuner.tuned(0));
    }

    public int week(int seed, int rate) {
        if (seed < 0 || seed > 1000000 || rate < 0 || rate > 100) {
            return refuse(WRONG_NUMBER);
        }
        hasWeek = true;
        return accept(travel.drawWeek(seed, rate, landed));
    }

    public int drawn(int cell) {
        return hasWeek && isCell(cell) ? landed[cell] : NONE;
    }

    public int image(int k) {
        if (k < 0 || k >= IMAGES) {
            return refuse(WRONG_NUMBER);
        }
        if (images[k] == null) {
            images[k] = new State();
        }
        images[k].copyFrom(state);
        return accept(0);
    }

    public int back(int k) {
        if (k < 0 || k >= IMAGES) {
            return refuse(WRONG_NUMBER);
        }
        State kept = images[k];
        if (kept == null) {
            return refuse(NO_SUCH);
        }
        state.copyFrom(kept);
        turnRiver();
        return accept(0);
    }

    public int count(int what) {
        if (what >= 10 && what <= 14) {
            return refusals[what - 10];
        }
        switch (what) {
            case 0:
                return state.lawCount;
            case 1:
                return state.countStrikes();
            case 2:
                return state.gates.size();
            case 3:
                return state.mills.size();
            case 4:
                return state.boats.size();
            case 5:
                return state.pours.size();
            case 6:
                return state.sights.size();
            case 7:
                return state.jobs.size();
            case 8:
                return state.wishes.size();
            case 9:
                return tapeSize;
            case 15:
                return state.inForce;
            default:
                return NONE;
        }
    }

    public int status() {
        return refusedBy;
    }

    private static boolean isCell(int cell) {
        return cell >= 0 && cell < CELLS;
    }

    private static boolean isPlace(int place) {
        return place >= 0 && place <= SEA;
    }

    private static boolean isHour(int hour) {
        return hour >= 0 && hour < HOURS;
    }

    /** An hour's beginning, or the end of the last one. */
    private static boolean isMoment(int hour) {
        return hour >= 0 && hour <= HOURS;
    }

    private static boolean isSpan(int from, int till) {
        return isHour(from) && isHour(till) && from <= till;
    }

    private static boolean isClock(int clock) {
        return clock >= 0 && clock < DAY_LONG;
    }

    private static boolean isColour(int colour) {
        return colour >= 0 && colour < COLOURS;
    }

    private static boolean isFlag(int flag) {
        return flag == 0 || flag == 1;
    }

    private static boolean isPump(int pump) {
        return pump >= 0 && pump < PUMPS;
    }

    private static boolean isPour(int cell, int hour, int colour, int amount) {
        return isCell(cell) && isHour(hour) && isColour(colour) && amount >= 1 && amount <= 99;
    }

    private int refuse(int code) {
        refusedBy = code;
        // There is no -4, so -5 and -6 stand one place nearer.
        int place = code >= NOT_NOW ? -1 - code : -2 - code;
        if (place >= 0 && place < refusals.length) {
            refusals[place]++;
        }
        return code;
    }

    private int accept(int answer) {
        refusedBy = 0;
        return answer;
    }

    /** What moves may move otherwise from now on. */
    private void turnRiver() {
        stream.spoil();
        turnLists();
    }

    /** What was found out from the lists of pours, sights, jobs and wishes may be otherwise. */
    private void turnLists() {
        dyes.spoil();
        sleuth.spoil();
        tuner.spoil();
    }

    private void write(int number) {
        for (int shift = 24; shift >= 0 && tapeSize < TAPE_ROOM; shift -= 8) {
            tape[tapeSize] = number >> shift & 255;
            tapeSize++;
        }
    }

    private boolean pourFromTape(int at) {
        if (at < 0 || at + 4 > tapeSize) {
            return false;
        }
        int cell = tape[at];
        int hour = tape[at + 1];
        int colour = tape[at + 2];
        int amount = tape[at + 3];
        if (!isPour(cell, hour, colour, amount) || stream.isBarred(cell, hour)) {
            return false;
        }
        return state.pours.put(cell, hour, colour, amount) != NONE;
    }

    /** A list of rows of four numbers, with room for so many. */
    private static final class Rows {
        private static final int WIDE = 4;
        private final int room;
        private final int[] items;
        private int size = 0;

        Rows(int room) {
            this.room = Math.max(room, 0);
            this.items = new int[this.room * WIDE];
        }

        int size() {
            return size;
        }

        boolean has(int i) {
            return i >= 0 && i < size;
        }

        boolean isFull() {
            return size >= room;
        }

        int at(int i, int part) {
            return i >= 0 && i < size && part >= 0 && part < WIDE ? items[i * WIDE + part] : 0;
        }

        void change(int i, int part, int value) {
            if (has(i) && part >= 0 && part < WIDE) {
                items[i * WIDE + part] = value;
            }
        }

        int put(int a, int b, int c, int d) {
            if (isFull()) {
                return NONE;
            }
            int start = size * WIDE;
            items[start] = a;
            items[start + 1] = b;
            items[start + 2] = c;
            items[start + 3] = d;
            size++;
            return size - 1;
        }

        void takeOut(int i) {
            if (has(i)) {
                System.arraycopy(items, (i + 1) * WIDE, items, i * WIDE, (size - i - 1) * WIDE);
                size--;
            }
        }

        int clear() {
            int had = size;
            size = 0;
            return had;
        }

        void copyFrom(Rows other) {
            if (other.size <= room) {
                System.arraycopy(other.items, 0, items, 0, other.size * WIDE);
                size = other.size;
            }
        }
    }

    /** All that an image keeps. */
    private static final class State {
        private final int[] pumps = new int[PUMPS * PUMP_PARTS];
        private final int[] strikes = new int[HOURS];
        private final Rows gates = new Rows(8);
        private final Rows mills = new Rows(6);
        private final Rows boats = new Rows(6);
        private final Rows pours = new Rows(16);
        private final Rows sights = new Rows(10);
        private final Rows jobs = new Rows(6);
        private final Rows wishes = new Rows(6);
        // Laws never change once read, so images share them.
        private final Law[] laws = new Law[LAWS];
        private int lawCount = 0;
        private int inForce = NONE;
        private int natural = 1;
        private int year = 0;

        State() {
            pumps[1] = CELLS - 1;
            pumps[PUMP_PARTS + 1] = CELLS - 1;
        }

        void copyFrom(State other) {
            System.arraycopy(other.pumps, 0, pumps, 0, pumps.length);
            System.arraycopy(other.strikes, 0, strikes, 0, strikes.length);
            for (int i = 0; i < LAWS; i++) {
                laws[i] = other.laws[i];
            }
            gates.copyFrom(other.gates);
            mills.copyFrom(other.mills);
            boats.copyFrom(other.boats);
            pours.copyFrom(other.pours);
            sights.copyFrom(other.sights);
            jobs.copyFrom(other.jobs);
            wishes.copyFrom(other.wishes);
            lawCount = other.lawCount;
            inForce = other.inForce;
            natural = other.natural;
            year = other.year;
        }

        int pumpPart(int pump, int part) {
            return isPump(pump) && part >= 0 && part < PUMP_PARTS ? pumps[pump * PUMP_PARTS + part] : 0;
        }

        void tellPump(int pump, int a, int b, int c, int d, int strong) {
            if (isPump(pump)) {
                int start = pump * PUMP_PARTS;
                pumps[start] = a;
                pumps[start + 1] = b;
                pumps[start + 4] = strong;
                tellClocks(pump, c, d);
            }
        }

        void tellClocks(int pump, int c, int d) {
            if (isPump(pump)) {
                pumps[pump * PUMP_PARTS + 2] = c;
                pumps[pump * PUMP_PARTS + 3] = d;
            }
        }

        /** How strong a pump is at a cell when it runs. */
        int strengthAt(int pump, int cell) {
            boolean isInReach = cell >= pumpPart(pump, 0) && cell <= pumpPart(pump, 1);
            return isInReach ? pumpPart(pump, 4) : 0;
        }

        /** How strong a pump is at a cell in an hour, but for strikes. */
        int pumpedBy(int pump, int cell, int hour) {
            if (pump < 0 || pump >= PUMPS) {
                return 0;
            }
            int start = pump * PUMP_PARTS;
            int c = pumps[start + 2];
            int d = pumps[start + 3];
            int clock = hour % DAY_LONG;
            boolean isInReach = cell >= pumps[start] && cell <= pumps[start + 1];
            boolean isRunning = c < d ? clock >= c && clock < d : c == d || clock >= c || clock < d;
            return isInReach && isRunning ? pumps[start + 4] : 0;
        }

        int pumpedAt(int cell, int hour, int strike) {
            return strike == 1 ? 0 : pumpedBy(0, cell, hour) + pumpedBy(1, cell, hour);
        }

        int strikeIn(int hour) {
            return isHour(hour) ? strikes[hour] : 0;
        }

        int tellStrikes(int from, int till, int is) {
            int changed = 0;
            for (int hour = Math.max(from, 0); hour <= till && hour < HOURS; hour++) {
                if (strikes[hour] != is) {
                    strikes[hour] = is;
                    changed++;
                }
            }
            return changed;
        }

        int countStrikes() {
            int all = 0;
            for (int strike : strikes) {
                all += strike;
            }
            return all;
        }

        int keepLaw(Law law) {
            if (lawCount >= LAWS) {
                return NONE;
            }
            laws[lawCount] = law;
            lawCount++;
            return lawCount - 1;
        }

        Law lawInForce() {
            return inForce >= 0 && inForce < lawCount && inForce < LAWS ? laws[inForce] : null;
        }
    }

    /**
     * A text that was read. Clause i's sum is the code from marks[2i], its test from marks[2i + 1], either may be
     * empty; the next clause begins at marks[2i + 2].
     */
    private static final class Law {
        private static final int FLOWS = 0;
        private static final int COSTS = 1;
        private static final int TOLLS = 2;
        private static final int BARS = 3;

        // An item of code is one of these, with its number above the lowest OP_BITS bits.
        private static final int OP_BITS = 4;
        private static final int OP_MASK = 15;
        private static final int NUMBER = 0;
        private static final int WORD = 1;
        private static final int ADD = 2;
        private static final int TAKE = 3;
        private static final int TIMES = 4;
        private static final int OVER = 5;
        private static final int LEFT = 6;
        private static final int LESS = 7;
        private static final int MORE = 8;
        private static final int SAME = 9;
        private static final int NOT = 10;
        private static final int SKIP_IF_SO = 11;
        private static final int SKIP_UNLESS_SO = 12;

        private final int size;
        private final int[] kinds;
        private final int[] marks;
        private final int[] code;

        Law(int size, int[] kinds, int[] marks, int[] code, int length) {
            this.size = Math.max(0, Math.min(size, Math.min(kinds.length, (marks.length - 1) / 2)));
            this.kinds = Arrays.copyOf(kinds, this.size);
            this.marks = Arrays.copyOf(marks, 2 * this.size + 1);
            this.code = Arrays.copyOf(code, Math.max(0, Math.min(length, code.length)));
        }
    }

    /** Reads a text and writes a law's code, or stops at the token that can't go on. */
    private static final class Reader {
        private static final int CLAUSES = 12;
        private static final int PARTS = 50;
        private static final int BRACKETS = 8;
        private static final int HIGHEST = 1000;

        // Each word has eight places, so that word k begins at 8k.
        private static final int WORD_WIDE = 8;
        private static final int WORDS = 17;
        private static final String WORD_LIST =
            "flows   costs   tolls   bars    if      or      and     not     cell    hour    day     strike  pumped  mills   natural down    year    ";

        // A token is a byte's own value, or one of these, or a known word's number above FIRST_WORD.
        private static final int AT_END = -1;
        private static final int A_NUMBER = -2;
        private static final int A_STRANGER = -3;
        private static final int FIRST_WORD = 256;
        private static final int BARS_WORD = FIRST_WORD + 3;
        private static final int IF_WORD = FIRST_WORD + 4;
        private static final int OR_WORD = FIRST_WORD + 5;
        private static final int AND_WORD = FIRST_WORD + 6;
        private static final int NOT_WORD = FIRST_WORD + 7;
        private static final int FIRST_PART = FIRST_WORD + 8;

        private final int[] kinds = new int[CLAUSES];
        private final int[] marks = new int[2 * CLAUSES + 1];
        private final int[] code = new int[TAPE_ROOM];
        // The text's tokens, the end last: what each is, where it stands, which number.
        private final int[] tokens = new int[TAPE_ROOM + 1];
        private final int[] places = new int[TAPE_ROOM + 1];
        private final int[] numbers = new int[TAPE_ROOM + 1];
        private int tokenCount = 0;
        private int clauses = 0;
        private int parts = 0;
        private int length = 0;
        private int at = 0;
        private int token = AT_END;

        /** Where the token stands at which reading stopped. */
        int stoppedAt() {
            return at >= 0 && at < places.length ? places[at] : 0;
        }

        /** The law that a text is; null if it can't be one. */
        Law read(int[] text, int size) {
            int textSize = Math.max(0, Math.min(size, Math.min(text.length, TAPE_ROOM)));
            tokenCount = 0;
            int next = 0;
            while (next < textSize) {
                next = text[next] == ' ' ? next + 1 : Math.max(next + 1, readToken(text, next, textSize));
            }
            addToken(AT_END, textSize, 0);
            clauses = 0;
            parts = 0;
            length = 0;
            moveTo(0);
            boolean isGood = clause();
            for (int i = 1; isGood && token == ';' && i <= CLAUSES; i++) {
                moveTo(at + 1);
                isGood = clause();
            }
            return isGood && token == AT_END ? new Law(clauses, kinds, marks, code, length) : null;
        }

        /** Reads the token at a place: where it ends. */
        private int readToken(int[] text, int place, int size) {
            int next = place + 1;
            int number = text[place] - '0';
            if (isLetter(text[place])) {
                while (next < size && isLetter(text[next])) {
                    next++;
                }
                addToken(findWord(text, place, next), place, 0);
            } else if (isDigit(text[place])) {
                for (; next < size && isDigit(text[next]); next++) {
                    number = Math.min(number * 10 + text[next] - '0', HIGHEST + 1);
                }
                addToken(A_NUMBER, place, number);
            } else {
                addToken(text[place], place, 0);
            }
            return next;
        }

        private void addToken(int what, int place, int number) {
            if (tokenCount < tokens.length) {
                tokens[tokenCount] = what;
                places[tokenCount] = place;
                numbers[tokenCount] = number;
                tokenCount++;
            }
        }

        private static int findWord(int[] text, int from, int till) {
            for (int k = 0; k < WORDS; k++) {
                boolean isSame = till - from < WORD_WIDE;
                for (int i = 0; isSame && i < WORD_WIDE; i++) {
                    int sign = from + i < till ? text[from + i] : ' ';
                    isSame = sign == WORD_LIST.charAt(k * WORD_WIDE + i);
                }
                if (isSame) {
                    return FIRST_WORD + k;
                }
            }
            return A_STRANGER;
        }

        private static boolean isLetter(int sign) {
            return sign >= 'a' && sign <= 'z';
        }

        private static boolean isDigit(int sign) {
            return sign >= '0' && sign <= '9';
        }

        private boolean clause() {
            if (clauses >= CLAUSES || token < FIRST_WORD || token > BARS_WORD) {
                return false;
            }
            kinds[clauses] = token - FIRST_WORD;
            boolean hasSum = token != BARS_WORD;
            marks[2 * clauses] = length;
            moveTo(at + 1);
            if (hasSum && !sum(0)) {
                return false;
            }
            marks[2 * clauses + 1] = length;
            if (token == IF_WORD) {
                moveTo(at + 1);
                if (!test(0)) {
                    return false;
                }
            }
            clauses++;
            marks[2 * clauses] = length;
            return true;
        }

        /** TEST and BOTH: what is behind "and" is skipped up to its end, what is behind "or" up to the next "or". */
        private boolean test(int deep) {
            int orSkip = NONE;
            boolean isGood = plain(deep);
            for (int i = 0; i < TAPE_ROOM && isGood && (token == OR_WORD || token == AND_WORD); i++) {
                boolean isOr = token == OR_WORD;
                if (isOr) {
                    aim(orSkip);
                }
                int skip = emit(isOr ? Law.SKIP_IF_SO : Law.SKIP_UNLESS_SO, 0);
                moveTo(at + 1);
                isGood = plain(deep);
                if (isOr) {
                    orSkip = skip;
                } else {
                    aim(skip);
                }
            }
            aim(orSkip);
            return isGood;
        }

        /** PLAIN, its comparison within: one call more would go too deep. */
        private boolean plain(int deep) {
            boolean isTurned = false;
            // A loop and no recursion: a text may have a hundred of them.
            for (int i = 0; i < TAPE_ROOM && token == NOT_WORD; i++) {
                isTurned = !isTurned;
                moveTo(at + 1);
            }
            boolean isGood;
            if (token == '(') {
                isGood = enclosed(deep);
            } else {
                isGood = sum(deep);
                int op = token == '<' ? Law.LESS : token == '>' ? Law.MORE : Law.SAME;
                if (!isGood || op == Law.SAME && token != '=') {
                    return false;
                }
                moveTo(at + 1);
                isGood = sum(deep);
                emit(op, 0);
            }
            if (isTurned) {
                emit(Law.NOT, 0);
            }
            return isGood;
        }

        private boolean enclosed(int deep) {
            if (deep >= BRACKETS) {
                return false;
            }
            moveTo(at + 1);
            boolean isClosed = test(deep + 1) && token == ')';
            moveTo(isClosed ? at + 1 : at);
            return isClosed;
        }

        /** SUM and TERM: a "+" or "-" waits until the products behind it are written. */
        private boolean sum(int deep) {
            int waiting = NONE;
            boolean isGood = part(deep);
            int op = arithmetic();
            for (int i = 0; i < TAPE_ROOM && isGood && op != NONE; i++) {
                boolean isSum = op == Law.ADD || op == Law.TAKE;
                if (isSum && waiting != NONE) {
                    emit(waiting, 0);
                }
                moveTo(at + 1);
                isGood = part(deep);
                if (isSum) {
                    waiting = op;
                } else {
                    emit(op, 0);
                }
                op = arithmetic();
            }
            if (waiting != NONE) {
                emit(waiting, 0);
            }
            return isGood;
        }

        private int arithmetic() {
            switch (token) {
                case '+':
                    return Law.ADD;
                case '-':
                    return Law.TAKE;
                case '*':
                    return Law.TIMES;
                case '/':
                    return Law.OVER;
                case '%':
                    return Law.LEFT;
                default:
                    return NONE;
            }
        }

        private boolean part(int deep) {
            if (token == '[') {
                if (deep >= BRACKETS) {
                    return false;
                }
                moveTo(at + 1);
                boolean isClosed = sum(deep + 1) && token == ']';
                moveTo(isClosed ? at + 1 : at);
                return isClosed;
            }
            int number = at >= 0 && at < numbers.length ? numbers[at] : 0;
            boolean isNumber = token == A_NUMBER && number <= HIGHEST;
            if (parts >= PARTS || !isNumber && token < FIRST_PART) {
                return false;
            }
            emit(isNumber ? Law.NUMBER : Law.WORD, isNumber ? number : token - FIRST_PART);
            parts++;
            moveTo(at + 1);
            return true;
        }

        /** Each item stands for a token at least, so a text never writes more items than it has bytes. */
        private int emit(int op, int value) {
            if (length < code.length) {
                code[length] = op | value << Law.OP_BITS;
                length++;
            }
            return length - 1;
        }

        /** A skip at this place goes to what is written next. */
        private void aim(int skip) {
            if (skip >= 0 && skip < length) {
                code[skip] = code[skip] & Law.OP_MASK | length << Law.OP_BITS;
            }
        }

        private void moveTo(int i) {
            at = i;
            token = at >= 0 && at < tokenCount ? tokens[at] : AT_END;
        }
    }

    /** Asks a law about a cell and an hour. */
    private static final class Asker {
        // Farther than any sum that is not broken.
        private static final int SILENT = -2000000000;
        private static final int FARTHEST = 1000000000;
        private static final int DOWN_WORD = 7;

        // cell, hour, day, strike, pumped, mills, natural, down, year: as the reader numbers them.
        private final int[] words = new int[9];
        private final long[] stack = new long[64];
        private boolean isSo = true;

        void about(int cell, int hour, int strike, int pumped, int mills, State state) {
            words[0] = cell;
            words[1] = hour % DAY_LONG;
            words[2] = hour / DAY_LONG;
            words[3] = strike;
            words[4] = pumped;
            words[5] = mills;
            words[6] = state.natural;
            words[DOWN_WORD] = -1;
            words[8] = state.year;
        }

        void going(int down) {
            words[DOWN_WORD] = down;
        }

        /** What the last clause of a kind that holds tells (a bar: 0); SILENT without one. */
        int tells(Law law, int kind) {
            for (int i = law.size - 1; i >= 0; i--) {
                if (law.kinds[i] == kind) {
                    isSo = true;
                    boolean isWhole = run(law.code, law.marks[2 * i + 1], law.marks[2 * i + 2]);
                    if (isWhole && isSo && run(law.code, law.marks[2 * i], law.marks[2 * i + 1])) {
                        return kind == Law.BARS ? 0 : (int) stack[0];
                    }
                }
            }
            return SILENT;
        }

        /**
         * Runs code; false if it is broken. A sum's worth is stack[0] then, a test's isSo. All ops stand in here, as
         * the calls that lead to it are eight already.
         */
        private boolean run(int[] code, int from, int till) {
            int top = 0;
            for (int at = from; at >= 0 && at < till && at < code.length; at++) {
                int op = code[at] & Law.OP_MASK;
                int value = code[at] >> Law.OP_BITS;
                if (op == Law.NUMBER || op == Law.WORD) {
                    if (top >= stack.length || value < 0 || op == Law.WORD && value >= words.length) {
                        return false;
                    }
                    stack[top] = op == Law.NUMBER ? value : words[value];
                    top++;
                } else if (op == Law.NOT) {
                    isSo = !isSo;
                } else if (op >= Law.SKIP_IF_SO) {
                    // Skips go ahead only, so the loop comes to its end.
                    at = isSo == (op == Law.SKIP_IF_SO) && value > at ? value - 1 : at;
                } else {
                    if (top < 2) {
                        return false;
                    }
                    top--;
                    long a = stack[top - 1];
                    long b = stack[top];
                    if (op >= Law.LESS) {
                        isSo = op == Law.LESS ? a < b : op == Law.MORE ? a > b : a == b;
                        top--;
                        continue;
                    }
                    if (b == 0 && (op == Law.OVER || op == Law.LEFT)) {
                        return false;
                    }
                    long made = op == Law.ADD ? a + b : op == Law.TAKE ? a - b : op == Law.TIMES ? a * b
                        : op == Law.OVER ? a / b : a % b;
                    if (made > FARTHEST || made < -FARTHEST) {
                        return false;
                    }
                    stack[top - 1] = made;
                }
            }
            return true;
        }
    }

    /** How the river flows: what a thing does in an hour, what a throw costs, what is tolled. */
    private static final class Stream {
        private static final int SWIFTEST = 6;
        private static final int DEAREST_THROW = 999;
        private static final int DEAREST_TOLL = 99;
        private static final int LANDING_MASK = 31;
        private static final int FLOW_SHIFT = 5;
        private static final int BARRED_BIT = 1024;

        private final State state;
        private final Asker asker = new Asker();
        // Both are found when first asked; 0: not found yet. A way is the landing, and FLOW + 7 above it; a price one more
        // than it is.
        private final int[] ways = new int[SPOTS];
        private final int[] prices = new int[SPOTS];
        private final int[] shutGates = new int[HOURS];
        private final int[] millsAt = new int[CELLS];
        private boolean isSpoilt = true;

        Stream(State state) {
            this.state = state;
        }

        void spoil() {
            isSpoilt = true;
        }

        int flowAt(int cell, int hour) {
            stepFrom(cell, hour);
            return isCell(cell) && isHour(hour) ? (ways[hour * CELLS + cell] >> FLOW_SHIFT) - SWIFTEST - 1 : 0;
        }

        /** Where a thing is an hour later; what is in the sea stays. */
        int stepFrom(int place, int hour) {
            if (!isCell(place) || !isHour(hour)) {
                return place;
            }
            refresh();
            int spot = hour * CELLS + place;
            if (ways[spot] == 0) {
                int strike = state.strikeIn(hour);
                int flow = flowBy(place, hour, strike, state.pumpedAt(place, hour, strike));
                ways[spot] = flow + SWIFTEST + 1 << FLOW_SHIFT | walk(place, hour, flow);
            }
            return ways[spot] & LANDING_MASK;
        }

        /** As stepFrom, if there were a strike in that hour, or none. */
        int stepIf(int place, int hour, int strike) {
            if (strike == state.strikeIn(hour) || !isCell(place)) {
                return stepFrom(place, hour);
            }
            return stepBy(place, hour, strike, state.pumpedAt(place, hour, strike));
        }

        /** As stepFrom, by a strike and pumps that may be others than those that stand. */
        int stepBy(int place, int hour, int strike, int pumped) {
            return walk(place, hour, flowBy(place, hour, strike, pumped));
        }

        int costAt(int cell, int hour) {
            return priceAt(cell, hour) & BARRED_BIT - 1;
        }

        boolean isBarred(int cell, int hour) {
            return priceAt(cell, hour) >= BARRED_BIT;
        }

        /** What a throw costs, and BARRED_BIT more if it is barred. */
        int priceAt(int cell, int hour) {
            if (!isCell(cell) || !isHour(hour)) {
                return 0;
            }
            refresh();
            int spot = hour * CELLS + cell;
            Law law = state.lawInForce();
            if (prices[spot] == 0 && law != null) {
                askAbout(cell, hour);
                int told = asker.tells(law, Law.COSTS);
                int cost = told == Asker.SILENT ? 1 : Math.max(0, Math.min(told, DEAREST_THROW));
                int bar = asker.tells(law, Law.BARS) == Asker.SILENT ? 0 : BARRED_BIT;
                prices[spot] = 1 + (cost | bar);
            }
            return law == null ? 1 : prices[spot] - 1;
        }

        /** What a crossing from a cell is tolled, down (1) or up (0). */
        int tollAt(int cell, int hour, int down) {
            Law law = state.lawInForce();
            if (law == null) {
                return 0;
            }
            askAbout(cell, hour);
            asker.going(down);
            int told = asker.tells(law, Law.TOLLS);
            return told == Asker.SILENT ? 0 : Math.max(0, Math.min(told, DEAREST_TOLL));
        }

        /** The tolls of a thing that floats from a cell in an hour. */
        int tollsFrom(int cell, int hour) {
            int landing = stepFrom(cell, hour);
            int all = 0;
            for (int at = cell; at < landing; at++) {
                all += tollAt(at, hour, 1);
            }
            for (int at = cell; at > landing; at--) {
                all += tollAt(at, hour, 0);
            }
            return all;
        }

        /** How often a mill at a cell turns. */
        int turns(int cell, int from, int till) {
            int all = 0;
            for (int hour = from; hour <= till && hour < HOURS; hour++) {
                all += Math.abs(flowAt(cell, hour));
            }
            return all;
        }

        private int flowBy(int cell, int hour, int strike, int pumped) {
            refresh();
            Law law = state.lawInForce();
            int told = Asker.SILENT;
            if (law != null && isCell(cell)) {
                asker.about(cell, hour, strike, pumped, millsAt[cell], state);
                told = asker.tells(law, Law.FLOWS);
            }
            int flow = told == Asker.SILENT ? state.natural - pumped : told;
            return Math.max(-SWIFTEST, Math.min(flow, SWIFTEST));
        }

        private void askAbout(int cell, int hour) {
            refresh();
            if (isCell(cell)) {
                int strike = state.strikeIn(hour);
                asker.about(cell, hour, strike, state.pumpedAt(cell, hour, strike), millsAt[cell], state);
            }
        }

        /** Where a thing comes to by so many steps, down if above 0. */
        private int walk(int cell, int hour, int flow) {
            int shut = isHour(hour) ? shutGates[hour] : 0;
            int at = cell;
            for (int i = 0; i < flow && at < SEA && (shut >> at & 1) == 0; i++) {
                at++;
            }
            for (int i = 0; i > flow && at > 0 && (shut >> at - 1 & 1) == 0; i--) {
                at--;
            }
            return at;
        }

        private void refresh() {
            if (!isSpoilt) {
                return;
            }
            isSpoilt = false;
            Arrays.fill(ways, 0);
            Arrays.fill(prices, 0);
            Arrays.fill(shutGates, 0);
            Arrays.fill(millsAt, 0);
            for (int i = 0; i < state.gates.size(); i++) {
                int till = state.gates.at(i, 2);
                for (int hour = state.gates.at(i, 1); hour >= 0 && hour <= till && hour < HOURS; hour++) {
                    shutGates[hour] |= 1 << state.gates.at(i, 0);
                }
            }
            for (int i = 0; i < state.mills.size(); i++) {
                int cell = state.mills.at(i, 0);
                if (isCell(cell)) {
                    millsAt[cell]++;
                }
            }
        }
    }

    /** What floats: things, boats, ducks, a week by draws. */
    private static final class Travel {
        private static final int DRAW_TIMES = 1103;
        private static final int DRAW_MORE = 12345;
        private static final int DRAW_ROUND = 1000003;
        private static final int CELL_BITS = (1 << CELLS) - 1;

        private final State state;
        private final Stream stream;
        // By hours: from which places a thing comes to where traceBack looked.
        private final int[] origins = new int[HOURS + 1];
        private final int[] begun = new int[SEA + 1];

        Travel(State state, Stream stream) {
            this.state = state;
            this.stream = stream;
        }

        int drift(int place, int hour, int till) {
            int at = place;
            for (int h = hour; h < till && h < HOURS && at != SEA; h++) {
                at = stream.stepFrom(at, h);
            }
            return at;
        }

        int downstream(int cell, int hour, int till) {
            int at = cell;
            int seen = 1 << at;
            for (int h = hour; h < till && h < HOURS && at != SEA; h++) {
                at = stream.stepFrom(at, h);
                seen |= 1 << at;
            }
            return seen;
        }

        /** The cells from which at an hour a thing comes to a place at a later one, as bits; origins has all between. */
        int traceBack(int place, int hour, int from) {
            if (hour < 0 || hour > HOURS || from < 0 || from > hour) {
                return 0;
            }
            int there = 1 << place;
            origins[hour] = there & CELL_BITS;
            for (int h = hour - 1; h >= from; h--) {
                int before = there & 1 << SEA;
                for (int cell = 0; there != 0 && cell < CELLS; cell++) {
                    before |= (there >> stream.stepFrom(cell, h) & 1) << cell;
                }
                there = before;
                origins[h] = there & CELL_BITS;
            }
            return origins[from];
        }

        int originsAt(int hour) {
            return isMoment(hour) ? origins[hour] : 0;
        }

        int boatAt(int boat, int hour) {
            int at = state.boats.at(boat, 0);
            for (int h = state.boats.at(boat, 1); h < hour && h < HOURS; h++) {
                at = sail(boat, at, h);
            }
            return at;
        }

        int tollTill(int boat, int hour) {
            int at = state.boats.at(boat, 0);
            int all = 0;
            for (int h = state.boats.at(boat, 1); h < hour && h < HOURS && at != SEA; h++) {
                all += isMoored(boat, h) ? 0 : stream.tollsFrom(at, h);
                at = sail(boat, at, h);
            }
            return all;
        }

        /** The first hour at whose beginning two boats are in one cell; NONE if there is none. */
        int meeting(int one, int other) {
            int hour = Math.max(state.boats.at(one, 1), state.boats.at(other, 1));
            int a = boatAt(one, hour);
            int b = boatAt(other, hour);
            for (; hour <= HOURS && a != SEA && b != SEA; hour++) {
                if (a == b) {
                    return hour;
                }
                a = sail(one, a, hour);
                b = sail(other, b, hour);
            }
            return NONE;
        }

        private boolean isMoored(int boat, int hour) {
            return hour >= state.boats.at(boat, 2) && hour <= state.boats.at(boat, 3);
        }

        private int sail(int boat, int at, int hour) {
            return isMoored(boat, hour) ? at : stream.stepFrom(at, hour);
        }

        /** A duck's days till it begins one where it began one (what 0), how long the round is (1). */
        int paddle(int cell, int day, int what) {
            Arrays.fill(begun, NONE);
            int at = cell;
            for (int days = 0; days <= SEA + 1 && isPlace(at); days++) {
                if (begun[at] != NONE) {
                    return what == 0 ? days : days - begun[at];
                }
                begun[at] = days;
                at = drift(at, day * DAY_LONG, (day + 1) * DAY_LONG);
            }
            return NONE;
        }

        /** How many hours matter to a thing (i NONE), or the i-th of them. */
        int turningHours(int cell, int hour, int till, int i) {
            int end = drift(cell, hour, till);
            int at = cell;
            int found = 0;
            for (int h = hour; h < till && at != SEA; h++) {
                int usual = stream.stepFrom(at, h);
                int other = stream.stepIf(at, h, 1 - state.strikeIn(h));
                if (other != usual && drift(other, h + 1, till) != end) {
                    if (found == i) {
                        return h;
                    }
                    found++;
                }
                at = usual;
            }
            return i == NONE ? found : NONE;
        }

        /** Draws a week: how many strikes it has; landed tells for each cell where a thing is behind it. */
        int drawWeek(int seed, int rate, int[] landed) {
            for (int cell = 0; cell < landed.length; cell++) {
                landed[cell] = cell;
            }
            long s = seed;
            int strikes = 0;
            for (int hour = 0; hour < HOURS; hour++) {
                s = (s * DRAW_TIMES + DRAW_MORE) % DRAW_ROUND;
                int strike = s % 100 < rate ? 1 : 0;
                strikes += strike;
                stepAll(landed, hour, strike);
            }
            return strikes;
        }

        /** Steps each place once, however many things are there. */
        private void stepAll(int[] landed, int hour, int strike) {
            Arrays.fill(begun, NONE);
            for (int i = 0; i < landed.length; i++) {
                int at = landed[i];
                if (isPlace(at)) {
                    if (begun[at] == NONE) {
                        begun[at] = stream.stepIf(at, hour, strike);
                    }
                    landed[i] = begun[at];
                }
            }
        }
    }

    /** What pours colour, and laundry among it. */
    private static final class Dyes {
        private static final int MOST_JOBS = 6;

        private final State state;
        private final Stream stream;
        private final Travel travel;
        private final int[] amounts = new int[CELLS];
        // By hours: the cells that have any colour, as bits.
        private final int[] tints = new int[HOURS + 1];
        // By jobs, then hours: when a job that may begin from that hour on does; NONE: not in time.
        private final int[] begins = new int[MOST_JOBS * (HOURS + 1)];
        private final int[] trial = new int[2 * MOST_JOBS];
        private final int[] order = new int[2 * MOST_JOBS];
        private int done = NONE;
        private int orders = 0;
        private boolean isSpoilt = true;

        Dyes(State state, Stream stream, Travel travel) {
            this.state = state;
            this.stream = stream;
            this.travel = travel;
        }

        void spoil() {
            isSpoilt = true;
        }

        int amountAt(int place, int hour, int colour) {
            int all = 0;
            for (int i = 0; i < state.pours.size(); i++) {
                if (placeOf(i, hour, colour) == place) {
                    all += state.pours.at(i, 3);
                }
            }
            return all;
        }

        int firstComing(int place, int colour, int hour) {
            int first = NONE;
            for (int i = 0; i < state.pours.size(); i++) {
                int h = Math.max(hour, state.pours.at(i, 1));
                int at = placeOf(i, h, colour);
                while (at != NONE && at != place && h < HOURS) {
                    at = stream.stepFrom(at, h);
                    h++;
                }
                if (at == place && (first == NONE || h < first)) {
                    first = h;
                }
            }
            return first;
        }

        /** Finds how much of a colour is in each cell at an hour. */
        void spread(int hour, int colour) {
            Arrays.fill(amounts, 0);
            for (int i = 0; i < state.pours.size(); i++) {
                int at = placeOf(i, hour, colour);
                if (isCell(at)) {
                    amounts[at] += state.pours.at(i, 3);
                }
            }
        }

        /** The lowest cell of those that have the most as it was spread last; NONE if none has any. */
        int fullest() {
            int found = NONE;
            int most = 0;
            for (int cell = 0; cell < CELLS; cell++) {
                if (amounts[cell] > most) {
                    most = amounts[cell];
                    found = cell;
                }
            }
            return found;
        }

        /** How many cells have some as it was spread last. */
        int coloured() {
            int some = 0;
            for (int amount : amounts) {
                some += amount > 0 ? 1 : 0;
            }
            return some;
        }

        int washing(int what) {
            if (isSpoilt) {
                wash();
                isSpoilt = false;
            }
            if (what == 0) {
                return done;
            }
            if (what == 1) {
                return orders;
            }
            int i = what < 8 ? what - 2 : what - 8;
            if (done == NONE || i < 0 || i >= state.jobs.size() || i >= MOST_JOBS) {
                return NONE;
            }
            return what < 8 ? order[i] : order[MOST_JOBS + i];
        }

        /** Where a pour is at an hour; NONE if it has not that colour, or is poured later. */
        private int placeOf(int i, int hour, int colour) {
            int since = state.pours.at(i, 1);
            if (state.pours.at(i, 2) != colour || since > hour) {
                return NONE;
            }
            return travel.drift(state.pours.at(i, 0), since, hour);
        }

        private void wash() {
            done = NONE;
            orders = 0;
            tint();
            for (int job = 0; job < state.jobs.size() && job < MOST_JOBS; job++) {
                findBegins(job);
            }
            place(0, 0, 0);
        }

        private void tint() {
            Arrays.fill(tints, 0);
            for (int i = 0; i < state.pours.size(); i++) {
                int at = state.pours.at(i, 0);
                for (int hour = state.pours.at(i, 1); hour >= 0 && hour < HOURS && isCell(at); hour++) {
                    tints[hour] |= 1 << at;
                    at = stream.stepFrom(at, hour);
                }
            }
        }

        private void findBegins(int job) {
            int cell = state.jobs.at(job, 0);
            int longs = state.jobs.at(job, 1);
            int row = job * (HOURS + 1);
            int clear = 0;
            int begin = NONE;
            begins[row + HOURS] = NONE;
            for (int hour = HOURS - 1; hour >= 0; hour--) {
                clear = (tints[hour] >> cell & 1) == 0 ? clear + 1 : 0;
                if (clear >= longs && hour >= state.jobs.at(job, 2)) {
                    begin = hour;
                }
                begins[row + hour] = begin;
            }
        }

        /** Tries all jobs that are not used behind those of the trial; the first order that is done so soon stays. */
        private void place(int depth, int used, int hour) {
            int size = state.jobs.size();
            if (depth >= size || depth >= MOST_JOBS) {
                finish(hour);
                return;
            }
            for (int job = 0; job < size && job < MOST_JOBS; job++) {
                int begin = isMoment(hour) ? begins[job * (HOURS + 1) + hour] : NONE;
                if ((used >> job & 1) == 0 && begin != NONE) {
                    trial[depth] = job;
                    trial[MOST_JOBS + depth] = begin;
                    place(depth + 1, used | 1 << job, begin + state.jobs.at(job, 1));
                }
            }
        }

        private void finish(int hour) {
            if (done == NONE || hour < done) {
                done = hour;
                orders = 0;
                System.arraycopy(trial, 0, order, 0, trial.length);
            }
            orders += hour == done ? 1 : 0;
        }
    }

    /** Who can have poured what was seen. */
    private static final class Sleuth {
        private static final int MOST_SIGHTS = 10;
        // The mark of a pour by which something would be there that was not seen.
        private static final int CLEARED = 1 << MOST_SIGHTS;

        private final State state;
        private final Travel travel;
        // By spots: which of the seen sights of the colour a pour there explains, as bits, or CLEARED.
        private final int[] signs = new int[SPOTS];
        private final long[] tally = new long[CLEARED];
        private int looked = NONE;
        private int seen = 0;

        Sleuth(State state, Travel travel) {
            this.state = state;
            this.travel = travel;
        }

        void spoil() {
            looked = NONE;
        }

        int countAlone(int colour) {
            look(colour);
            int all = 0;
            for (int sign : signs) {
                all += sign == seen ? 1 : 0;
            }
            return all;
        }

        int findAlone(int colour, int i) {
            look(colour);
            int found = 0;
            for (int spot = 0; spot < SPOTS; spot++) {
                if (signs[spot] == seen) {
                    if (found == i) {
                        return spot;
                    }
                    found++;
                }
            }
            return NONE;
        }

        /** Pairs that explain all: those that explain no more than a part of it are taken off and put on by turns. */
        int countTogether(int colour) {
            look(colour);
            Arrays.fill(tally, 0);
            for (int sign : signs) {
                if (sign >= 0 && sign < CLEARED) {
                    tally[sign]++;
                }
            }
            long alone = tally[seen & CLEARED - 1];
            gatherParts();
            long ordered = 0;
            for (int some = 0; some <= seen && some < CLEARED; some++) {
                if ((some & ~seen) == 0) {
                    long both = tally[some] * tally[some];
                    ordered += Integer.bitCount(seen ^ some) % 2 == 0 ? both : -both;
                }
            }
            return (int) ((ordered - alone) / 2);
        }

        /** Each tally becomes that of all sets of sights within its own. */
        private void gatherParts() {
            for (int bit = 1; bit <= seen && bit < CLEARED; bit <<= 1) {
                for (int some = 0; some <= seen && some < CLEARED; some++) {
                    if ((some & bit) != 0) {
                        tally[some] += tally[some ^ bit];
                    }
                }
            }
        }

        private void look(int colour) {
            if (looked == colour) {
                return;
            }
            looked = colour;
            seen = 0;
            Arrays.fill(signs, 0);
            for (int i = 0; i < state.sights.size() && i < MOST_SIGHTS; i++) {
                if (state.sights.at(i, 2) == colour) {
                    int hour = state.sights.at(i, 1);
                    boolean isSeen = state.sights.at(i, 3) == 1;
                    travel.traceBack(state.sights.at(i, 0), hour, 0);
                    mark(hour, isSeen ? 1 << i : CLEARED);
                    seen |= isSeen ? 1 << i : 0;
                }
            }
        }

        private void mark(int hour, int bit) {
            for (int h = 0; h <= hour && h < HOURS; h++) {
                int origins = travel.originsAt(h);
                for (int cell = 0; origins != 0 && cell < CELLS; cell++) {
                    if ((origins >> cell & 1) != 0) {
                        signs[h * CELLS + cell] |= bit;
                    }
                }
            }
        }
    }

    /** Throws that shall come to a place: the cheapest one, two lovers' bottles. */
    private static final class Thrower {
        private final Stream stream;
        // By places: in which hour a thing that is there at the hour looked at comes to where it shall; NONE: never.
        private final int[] there = new int[SEA + 1];
        private final int[] home = new int[SEA + 1];
        private final int[] later = new int[SEA + 1];
        // By hours: when the soonest answer that is thrown from that hour on comes; NONE: never.
        private final int[] answers = new int[HOURS + 1];
        private final int[] found = new int[4];

        Thrower(Stream stream) {
            this.stream = stream;
        }

        /** Of the least throw its cost (what 0), cell (1), hour (2), when it is there (3). */
        int cheapest(int place, int a, int b, int hour, int what) {
            Arrays.fill(there, NONE);
            Arrays.fill(found, NONE);
            for (int h = b; h >= hour && h >= 0; h--) {
                goBack(there, place, h, a);
                // Hours and cells fall, so that of throws alike the last one looked at is the first one.
                for (int cell = CELLS - 1; cell >= 0 && h < HOURS; cell--) {
                    if (there[cell] != NONE) {
                        weigh(cell, h);
                    }
                }
            }
            return what >= 0 && what < found.length ? found[what] : NONE;
        }

        private void weigh(int cell, int hour) {
            int cost = stream.priceAt(cell, hour);
            boolean isLess = found[0] == NONE || cost < found[0];
            boolean isAlike = cost == found[0] && there[cell] <= found[3];
            if (cost < Stream.BARRED_BIT && (isLess || isAlike)) {
                found[0] = cost;
                found[1] = cell;
                found[2] = hour;
                found[3] = there[cell];
            }
        }

        /** When the soonest answer is there (what 0), the latest hour of a first throw that has it so soon (1). */
        int answer(int one, int other, int hour, int what) {
            Arrays.fill(there, NONE);
            Arrays.fill(home, NONE);
            Arrays.fill(answers, NONE);
            int soonest = NONE;
            int latest = NONE;
            for (int h = HOURS; h >= hour && h >= 0; h--) {
                goBack(there, other, h, 0);
                goBack(home, one, h, 0);
                reply(other, h);
                int came = h < HOURS && !stream.isBarred(one, h) ? there[one] : NONE;
                int replied = isMoment(came) ? answers[came] : NONE;
                if (replied != NONE && (soonest == NONE || replied < soonest)) {
                    soonest = replied;
                    latest = h;
                }
            }
            return what == 0 ? soonest : latest;
        }

        /** The soonest answer that is thrown in this hour or later. */
        private void reply(int other, int hour) {
            if (hour >= 0 && hour < HOURS) {
                int next = answers[hour + 1];
                int now = stream.isBarred(other, hour) ? NONE : home[other];
                answers[hour] = now == NONE || next != NONE && next < now ? next : now;
            }
        }

        /** From a row of the hour behind this one to that of this hour; what is at the place from an hour on is there. */
        private void goBack(int[] row, int place, int hour, int from) {
            System.arraycopy(row, 0, later, 0, later.length);
            for (int at = 0; at < row.length; at++) {
                int next = stream.stepFrom(at, hour);
                row[at] = next >= 0 && next < later.length ? later[next] : NONE;
            }
            if (hour >= from && place >= 0 && place < row.length) {
                row[place] = hour;
            }
        }
    }

    /** Wishes, and the clocks of a pump by which most of them come. */
    private static final class Tuner {
        private static final int LONGEST = 6;
        private static final int PLACE_BITS = 5;
        private static final int PLACE_MASK = 31;

        private final State state;
        private final Stream stream;
        private final Travel travel;
        // By spots: 1, where a step leads with the pump on, where with it off, packed; 0: not found yet.
        private final int[] turns = new int[SPOTS];
        // How many wishes, which clock, how many clocks.
        private final int[] finest = new int[3];
        private int tunedPump = NONE;

        Tuner(State state, Stream stream, Travel travel) {
            this.state = state;
            this.stream = stream;
            this.travel = travel;
        }

        void spoil() {
            tunedPump = NONE;
        }

        int grantedNow() {
            int bits = 0;
            for (int i = 0; i < state.wishes.size(); i++) {
                int end = travel.drift(state.wishes.at(i, 0), state.wishes.at(i, 1), state.wishes.at(i, 3));
                bits |= end == state.wishes.at(i, 2) ? 1 << i : 0;
            }
            return bits;
        }

        int tuned(int what) {
            return what >= 0 && what < finest.length ? finest[what] : NONE;
        }

        void tune(int pump) {
            if (tunedPump == pump) {
                return;
            }
            tunedPump = pump;
            Arrays.fill(turns, 0);
            finest[0] = NONE;
            for (int longs = 1; longs <= LONGEST; longs++) {
                for (int clock = 0; clock < DAY_LONG && finest[0] < state.wishes.size(); clock++) {
                    int wishes = tryClocks(pump, clock, longs);
                    if (wishes > finest[0]) {
                        finest[0] = wishes;
                        finest[1] = clock;
                        finest[2] = longs;
                    }
                }
            }
        }

        private int tryClocks(int pump, int clock, int longs) {
            int wishes = 0;
            for (int i = 0; i < state.wishes.size(); i++) {
                int at = state.wishes.at(i, 0);
                int till = state.wishes.at(i, 3);
                for (int hour = state.wishes.at(i, 1); hour < till && isHour(hour) && isCell(at); hour++) {
                    int known = turns[hour * CELLS + at];
                    int turn = known == 0 ? findTurn(pump, at, hour) : known;
                    // The clock wraps over midnight.
                    boolean isOn = (hour % DAY_LONG - clock + DAY_LONG) % DAY_LONG < longs;
                    at = (isOn ? turn >> PLACE_BITS : turn) & PLACE_MASK;
                }
                wishes += at == state.wishes.at(i, 2) ? 1 : 0;
            }
            return wishes;
        }

        private int findTurn(int pump, int cell, int hour) {
            int strike = state.strikeIn(hour);
            int others = strike == 1 ? 0 : state.pumpedBy(1 - pump, cell, hour);
            int more = strike == 1 ? 0 : state.strengthAt(pump, cell);
            int off = stream.stepBy(cell, hour, strike, others);
            int on = more == 0 ? off : stream.stepBy(cell, hour, strike, others + more);
            int turn = 1 << 2 * PLACE_BITS | on << PLACE_BITS | off;
            if (isCell(cell) && isHour(hour)) {
                turns[hour * CELLS + cell] = turn;
            }
            return turn;
        }
    }
}
