import java.io.IOException;
import java.util.Arrays;

/**
 * Each number of each call: the lowest and the highest that can be are taken, the next ones beyond and the farthest ints
 * are not. A call that is REFUSED is told so by status() and counted once, and changes nothing; one that answers NONE or
 * NOTHING is none of the refused.
 */
public final class RangeTests {
    private static final int NONE = -1;
    private static final int NOTHING = -1000;

    private static Runs runs;
    private static int asked = 0;
    private static int wrong = 0;

    private static void hold(boolean is, String what) {
        asked++;
        if (!is) {
            wrong++;
            System.out.println("not so: " + what);
        }
    }

    /** What a refused call must leave as it was; the tape, FAULT and FOAM, too. */
    private static int[] seen(NineRiver x) {
        int[] seen = new int[400];
        int n = 0;
        for (int what = 0; what <= 15; what++) {
            seen[n++] = what < 10 || what == 15 ? x.count(what) : 0;
        }
        for (int what = 0; what < 10; what++) {
            seen[n++] = x.of(what / 5, what % 5);
        }
        for (int i = 0; i < 96; i++) {
            seen[n++] = x.flow(i * 5 % 24, i);
            seen[n++] = x.where(i * 7 % 24, i, 96);
        }
        for (int i = 0; i < 24; i++) {
            seen[n++] = x.dye(i, 40, 0);
            seen[n++] = x.drawn(i);
        }
        for (int i = 0; i < 6; i++) {
            seen[n++] = x.sails(i, 95, 0);
            seen[n++] = x.grinds(i, 0, 95);
        }
        for (int what = 0; what < 14; what++) {
            seen[n++] = x.laundry(what);
        }
        seen[n++] = x.granted();
        seen[n++] = x.suspects(0, NONE);
        seen[n++] = x.fault();
        seen[n++] = x.foam();
        return seen;
    }

    private static int[] refusals(NineRiver x) {
        return new int[] {0, x.count(10), x.count(11), x.count(12), 0, x.count(13), x.count(14)};
    }

    private static int[] with(int[] numbers, int at, int number) {
        int[] changed = numbers.clone();
        changed[at] = number;
        return changed;
    }

    private static int[] beyond(int low, int high) {
        return new int[] {low - 1, high + 1, Integer.MIN_VALUE, Integer.MAX_VALUE};
    }

    /** A call that status() tells of is refused by this for numbers beyond; all behind the same run. */
    private static void told(int by, String rows, String call, int at, int low, int high, int... numbers) {
        for (int number : new int[] {low, high}) {
            NineRiver x = runs.made(rows);
            int[] all = with(numbers, at, number);
            int got = Runs.call(x, call, all);
            hold(x.status() == 0, call + Arrays.toString(all) + " is taken, answered " + got + ", status " + x.status());
            hold(x.count(9 - by + (by < -3 ? -1 : 0)) == 0, call + Arrays.toString(all) + " is not counted as refused");
        }
        for (int number : beyond(low, high)) {
            NineRiver x = runs.made(rows);
            int[] all = with(numbers, at, number);
            int[] before = seen(x);
            int[] counted = refusals(x);
            counted[-by]++;
            int got = Runs.call(x, call, all);
            hold(got == (call.equals("terms") ? NOTHING : by), call + Arrays.toString(all) + " is refused, answered " + got);
            hold(x.status() == by, "status() behind " + call + Arrays.toString(all));
            hold(Arrays.equals(counted, refusals(x)), call + Arrays.toString(all) + " is counted once");
            hold(Arrays.equals(before, seen(x)), call + Arrays.toString(all) + " changes nothing");
        }
    }

    /** A call that asks answers this for numbers beyond, something else within. */
    private static void asked(int without, String rows, String call, int at, int low, int high, int... numbers) {
        for (int number : new int[] {low, high}) {
            int[] all = with(numbers, at, number);
            int got = Runs.call(runs.made(rows), call, all);
            hold(got != without, call + Arrays.toString(all) + " is answered");
        }
        for (int number : beyond(low, high)) {
            NineRiver x = runs.made(rows);
            x.open(-1);
            int[] counted = refusals(x);
            int[] all = with(numbers, at, number);
            int got = Runs.call(x, call, all);
            hold(got == without, call + Arrays.toString(all) + " answers " + without + ", answered " + got);
            hold(x.status() == -2 && Arrays.equals(counted, refusals(x)), call + Arrays.toString(all) + " is not refused");
        }
    }

    private static void pumpsAndStrikes() {
        String some = "pump 1 3 9 20 4 2";
        told(-2, some, "pump", 0, 0, 1, 0, 5, 10, 3, 9, 2);
        told(-1, some, "pump", 1, 0, 10, 0, 5, 10, 3, 9, 2);
        told(-1, some, "pump", 2, 5, 23, 0, 5, 10, 3, 9, 2);
        told(-1, some, "pump", 3, 0, 23, 0, 5, 10, 3, 9, 2);
        told(-1, some, "pump", 4, 0, 23, 0, 5, 10, 3, 9, 2);
        told(-1, some, "pump", 5, 0, 6, 0, 5, 10, 3, 9, 2);
        asked(NONE, some, "of", 0, 0, 1, 0, 0);
        asked(NONE, some, "of", 1, 0, 4, 1, 0);
        told(-1, some, "strike", 0, 0, 50, 20, 50, 1);
        told(-1, some, "strike", 1, 20, 95, 20, 50, 1);
        told(-1, some, "strike", 2, 0, 1, 20, 50, 1);
    }

    private static void gatesMillsAndTerms() {
        told(-1, "", "gate", 0, 0, 23, 5, 20, 50);
        told(-1, "", "gate", 1, 0, 50, 5, 20, 50);
        told(-1, "", "gate", 2, 20, 95, 5, 20, 50);
        told(-2, "3 times gate 4 0 50", "open", 0, 0, 2, 0);
        told(-2, "8 times gate 4 0 50", "open", 0, 0, 7, 0);
        told(-1, "", "mill", 0, 0, 23, 0);
        asked(NONE, "2 times mill 4", "grinds", 0, 0, 1, 0, 20, 50);
        asked(NONE, "6 times mill 4", "grinds", 0, 0, 5, 0, 20, 50);
        asked(NONE, "mill 4", "grinds", 1, 0, 50, 0, 20, 50);
        asked(NONE, "mill 4", "grinds", 2, 20, 95, 0, 20, 50);
        told(-1, "", "terms", 0, 0, 1, 0, 2);
        told(-1, "", "terms", 1, -3, 3, 0, 2);
        told(-1, "", "terms", 1, 0, 99, 1, 2);
    }

    private static void tapeAndLaws() {
        asked(NONE, "2 times feed 0 0 0 0 0", "end", 0, 0, 40, 7);
        asked(NONE, "20 times feed 0 0 0 0 0", "end", 0, 0, 400, 7);
        asked(NONE, "", "end", 0, 0, 0, 0);
        told(-2, "rule \"flows 2\"\n rule \"flows 3\"", "force", 0, -1, 1, 0);
        told(-2, "rule \"flows 2\"" + "\n rule \"bars\"".repeat(5), "force", 0, -1, 5, 0);
        told(-2, "", "force", 0, -1, -1, 0);
        asked(NOTHING, "", "flow", 0, 0, 23, 5, 5);
        asked(NOTHING, "", "flow", 1, 0, 95, 5, 5);
        asked(NONE, "", "asks", 0, 0, 23, 5, 5, 0);
        asked(NONE, "", "asks", 1, 0, 95, 5, 5, 0);
        asked(NONE, "", "asks", 2, 0, 3, 5, 5, 0);
    }

    private static void whatFloats() {
        asked(NONE, "", "where", 0, 0, 23, 5, 20, 50);
        asked(NONE, "", "where", 1, 0, 50, 5, 20, 50);
        asked(NONE, "", "where", 1, 0, 95, 5, 20, 96);
        asked(NONE, "", "where", 2, 20, 96, 5, 20, 50);
        asked(NONE, "", "below", 0, 0, 23, 5, 20, 30);
        asked(NONE, "", "below", 1, 0, 95, 5, 20, 30);
        asked(NONE, "", "below", 2, 0, 96, 5, 20, 30);
        asked(NONE, "", "sources", 0, 0, 24, 5, 50, 20);
        asked(NONE, "", "sources", 1, 20, 95, 5, 50, 20);
        asked(NONE, "", "sources", 2, 0, 50, 5, 50, 20);
    }

    private static void boats() {
        String three = "3 times boat 5 20";
        told(-1, "", "boat", 0, 0, 23, 5, 20);
        told(-1, "", "boat", 1, 0, 95, 5, 20);
        told(-2, three, "moor", 0, 0, 2, 0, 20, 50);
        told(-1, three, "moor", 1, 0, 50, 0, 20, 50);
        told(-1, three, "moor", 2, 20, 95, 0, 20, 50);
        asked(NONE, three, "sails", 0, 0, 2, 0, 30, 0);
        asked(NONE, "6 times boat 5 20", "sails", 0, 0, 5, 0, 30, 0);
        asked(NONE, three, "sails", 1, 20, 95, 0, 30, 0);
        asked(NONE, three, "sails", 1, 20, 95, 0, 30, 1);
        asked(NONE, three, "sails", 2, 0, 1, 0, 30, 0);
        asked(NONE, three, "meet", 0, 1, 2, 0, 0, 0);
        asked(NONE, three, "meet", 0, 0, 1, 0, 2, 0);
        asked(NONE, three, "meet", 1, 1, 2, 0, 0, 0);
        asked(NONE, three, "meet", 1, 0, 1, 2, 0, 0);
        asked(NONE, three, "meet", 2, 0, 1, 0, 1, 0);
    }

    private static void dyes() {
        String colours = "terms 0 0\n pour 5 0 0 1\n pour 5 0 1 1\n pour 5 0 2 1\n pour 5 0 3 1\n pour 9 9 0 1";
        told(-1, "", "pour", 0, 0, 23, 5, 20, 1, 50);
        told(-1, "", "pour", 1, 0, 95, 5, 20, 1, 50);
        told(-1, "", "pour", 2, 0, 3, 5, 20, 1, 50);
        told(-1, "", "pour", 3, 1, 99, 5, 20, 1, 50);
        asked(NONE, "", "dye", 0, 0, 24, 5, 20, 1);
        asked(NONE, "", "dye", 1, 0, 96, 5, 20, 1);
        asked(NONE, "", "dye", 2, 0, 3, 5, 20, 1);
        asked(NONE, "pour 0 0 0 1", "comes", 0, 0, 24, 5, 0, 0);
        asked(NONE, colours, "comes", 1, 0, 3, 5, 0, 0);
        asked(NONE, colours, "comes", 2, 0, 96, 5, 0, 0);
        asked(NONE, colours, "most", 0, 0, 95, 5, 0, 0);
        asked(NONE, colours, "most", 0, 0, 95, 5, 0, 1);
        asked(NONE, colours, "most", 1, 0, 3, 5, 0, 0);
        asked(NONE, colours, "most", 2, 0, 1, 5, 0, 0);
        asked(NONE, "", "least", 0, 0, 24, 5, 0, 96, 0, 0);
        asked(NONE, "", "least", 1, 0, 50, 5, 20, 50, 0, 0);
        asked(NONE, "", "least", 1, 0, 96, 5, 20, 96, 0, 0);
        asked(NONE, "", "least", 2, 20, 96, 5, 20, 50, 0, 0);
        asked(NONE, "", "least", 3, 0, 95, 5, 0, 96, 0, 0);
        asked(NONE, "", "least", 4, 0, 3, 5, 0, 96, 0, 0);
    }

    private static void sightsAndJobs() {
        told(-1, "", "sight", 0, 0, 23, 5, 20, 1, 1);
        told(-1, "", "sight", 1, 0, 96, 5, 20, 1, 1);
        told(-1, "", "sight", 2, 0, 3, 5, 20, 1, 1);
        told(-1, "", "sight", 3, 0, 1, 5, 20, 1, 1);
        asked(NONE, "3 times sight 5 20 0 1", "so", 0, 0, 2, 0);
        asked(NONE, "10 times sight 5 20 0 1", "so", 0, 0, 9, 0);
        asked(NONE, "", "suspects", 0, 0, 3, 0, NONE);
        asked(NONE, "", "suspects", 1, NONE, 2303, 0, NONE);
        asked(NONE, "sight 4 2 0 1", "suspects", 1, NONE, 2, 0, NONE);
        asked(NONE, "", "pairs", 0, 0, 3, 0);
        told(-1, "", "job", 0, 0, 23, 5, 2, 20);
        told(-1, "", "job", 1, 1, 6, 5, 2, 20);
        told(-1, "", "job", 2, 0, 95, 5, 2, 20);
        asked(NONE, "6 times job 5 2 20", "laundry", 0, 0, 13, 0);
        asked(NONE, "", "laundry", 0, 0, 1, 0);
    }

    private static void loversAndDucks() {
        // Down by day 0 and 2, up by day 1 and 3: each cell comes to each other one and back.
        String turning = "rule \"flows 1; flows 0-1 if day%2=1\"";
        asked(NONE, turning, "lovers", 0, 0, 23, 5, 7, 0, 0);
        asked(NONE, turning, "lovers", 1, 0, 23, 5, 7, 0, 0);
        asked(NONE, turning, "lovers", 2, 0, 96, 7, 7, 0, 0);
        asked(NONE, turning, "lovers", 2, 0, 96, 7, 7, 0, 1);
        asked(NONE, turning, "lovers", 3, 0, 1, 5, 7, 0, 0);
        asked(NONE, "", "duck", 0, 0, 23, 5, 1, 0);
        asked(NONE, "", "duck", 1, 0, 3, 5, 1, 0);
        asked(NONE, "", "duck", 2, 0, 1, 5, 1, 0);
        String pumped = "terms 0 0\n pump 0 0 23 0 0 1";
        asked(NONE, pumped, "matters", 0, 0, 23, 20, 30, 35, NONE);
        asked(NONE, pumped, "matters", 1, 0, 35, 20, 30, 35, NONE);
        asked(NONE, pumped, "matters", 2, 30, 95, 20, 30, 35, NONE);
        asked(NONE, pumped, "matters", 3, NONE, 4, 20, 30, 35, NONE);
    }

    private static void wishesAndTheRest() {
        told(-1, "", "wish", 0, 0, 23, 5, 20, 7, 50);
        told(-1, "", "wish", 1, 0, 50, 5, 20, 7, 50);
        told(-1, "", "wish", 2, 0, 24, 5, 20, 7, 50);
        told(-1, "", "wish", 3, 20, 95, 5, 20, 7, 50);
        asked(NONE, "", "best", 0, 0, 1, 0, 0);
        asked(NONE, "", "best", 1, 0, 2, 0, 0);
        told(-2, "pump 0 0 23 5 9 1\n wish 5 5 5 6", "set", 0, 0, 1, 0);
        told(-1, "", "week", 0, 0, 1000000, 77, 50);
        told(-1, "", "week", 1, 0, 100, 77, 50);
        asked(NONE, "week 77 50", "drawn", 0, 0, 23, 5);
        told(-1, "", "image", 0, 0, 1, 0);
        told(-1, "image 0\n image 1\n mill 3", "back", 0, 0, 1, 0);
        asked(NONE, "rule \"bars\"", "count", 0, 0, 15, 0);
    }

    public static void main(String[] args) throws IOException {
        runs = new Runs();
        pumpsAndStrikes();
        gatesMillsAndTerms();
        tapeAndLaws();
        whatFloats();
        boats();
        dyes();
        sightsAndJobs();
        loversAndDucks();
        wishesAndTheRest();
        System.out.println(asked + " times looked at, " + wrong + " not as due");
        if (wrong != 0) {
            System.exit(1);
        }
    }
}
