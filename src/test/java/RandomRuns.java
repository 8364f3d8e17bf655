import java.lang.reflect.Method;
import java.util.ArrayList;
import java.util.Arrays;
import java.util.HashMap;
import java.util.List;
import java.util.Map;
import java.util.Random;

/**
 * Runs of up to 512 calls by chance, each answered by NineRiver and by the Model alike. Arguments: how many runs, the
 * first seed.
 */
public final class RandomRuns {
    // A call and its numbers: c cell, p cell or sea, h hour, m hour to 96, t hour not ahead of the one before, T the same
    // to 96, k clock, u pump, w colour, b 0 or 1, a letter in brackets otherwise.
    private static final String[] CALLS = {
        "pump u c d k k s", "pump u c d k k s", "of u q", "strike h t b", "gate c h t", "open i", "mill c", "grinds i h t", "terms b v",
        "foam", "fault", "force l", "force l", "flow c h", "flow c h", "asks c h r", "asks c h r", "where c h T", "where c h T",
        "below c h m", "sources p x f", "boat c h", "boat c h", "moor i h t", "sails i x b", "sails i x b", "meet i i b", "meet i i b",
        "pour c h w g", "pour c h w g", "undo", "dye p m w", "dye p m w", "comes p w m", "most h w b", "least p m T e r", "least p m T e r",
        "sight c m w b", "sight c m w b", "forget", "so i", "suspects w n", "pairs w", "job c z h", "job c z e", "hang", "laundry o", "laundry o",
        "lovers c c e b", "lovers c c e b", "duck c y b", "matters c h t N", "matters c h t N", "wish c h p t", "wish c h p t", "drop", "granted",
        "best u y", "set u", "week S R", "drawn c", "image b", "back b", "count C", "status", "feed F F F F F", "end E", "row", "law"
    };

    private static final String[] SELDOM = {"forget", "hang", "drop", "back", "open", "pairs", "suspects", "best", "set", "law", "row", "force", "undo"};

    private final Random chance;
    private final NineRiver river = new NineRiver();
    private final Model model = new Model();
    private final List<String> told = new ArrayList<>();
    private int calls = 0;

    private RandomRuns(long seed) {
        chance = new Random(seed);
    }

    private static final Map<String, Method[]> METHODS = new HashMap<>();

    static {
        for (Method method : NineRiver.class.getDeclaredMethods()) {
            for (Method twin : Model.class.getDeclaredMethods()) {
                if (twin.getName().equals(method.getName()) && twin.getParameterCount() == method.getParameterCount()) {
                    METHODS.put(method.getName(), new Method[] {method, twin});
                }
            }
        }
    }

    /** Calls both; false if they answer otherwise. */
    private boolean alike(String name, int... numbers) throws ReflectiveOperationException {
        Object[] boxed = Arrays.stream(numbers).boxed().toArray();
        Method[] both = METHODS.get(name);
        calls++;
        int got = (int) both[0].invoke(river, boxed);
        int due = (int) both[1].invoke(model, boxed);
        told.add(name + Arrays.toString(numbers) + " -> " + got);
        if (got != due) {
            System.out.println(String.join("\n", told.subList(Math.max(0, told.size() - 60), told.size())));
            System.out.println(name + Arrays.toString(numbers) + " answered " + got + ", the model says " + due);
        }
        return got == due;
    }

    private int within(int low, int high) {
        int which = chance.nextInt(40);
        if (which == 0) {
            return low - 1;
        }
        if (which == 1) {
            return high + 1;
        }
        return which == 2 ? low : which == 3 ? high : low + chance.nextInt(Math.max(1, high - low + 1));
    }

    private int number(char kind, int before) {
        int wild = chance.nextInt(300);
        if (wild == 0) {
            return chance.nextInt();
        }
        switch (kind) {
            case 'c': return within(0, 23);
            case 'd': return Math.min(24, Math.max(before, within(before, 23)));
            case 'p': return within(0, 24);
            case 'h': return chance.nextInt(3) == 0 ? within(0, 95) : within(0, 30);
            case 'e': return chance.nextInt(3) == 0 ? within(0, 96) : within(0, 10);
            case 'x': return within(0, 95);
            case 'm': return within(0, 96);
            case 't': return chance.nextInt(3) == 0 ? within(before, 95) : within(before, Math.min(95, before + 12));
            case 'T': return chance.nextInt(3) == 0 ? within(before, 96) : within(before, Math.min(96, before + 12));
            case 'f': return before - within(0, 20);
            case 'k': return within(0, 23);
            case 'u': return within(0, 1);
            case 'w': return chance.nextInt(3) == 0 ? within(0, 3) : chance.nextInt(2);
            case 'b': return within(0, 1);
            case 's': return within(0, 6);
            case 'q': return within(0, 4);
            case 'i': return within(0, 5);
            case 'v': return within(-3, 3);
            case 'l': return within(-1, 5);
            case 'r': return within(0, 3);
            case 'g': return within(1, 99);
            case 'n': return within(-1, 200);
            case 'N': return within(-1, 5);
            case 'z': return within(1, 6);
            case 'o': return within(0, 13);
            case 'y': return within(0, 2);
            case 'S': return within(0, 1000000);
            case 'R': return within(0, 100);
            case 'C': return within(0, 15);
            case 'F': return chance.nextInt(4) == 0 ? chance.nextInt() : pourNumber();
            default: return within(0, 60);
        }
    }

    private int pourNumber() {
        return within(0, 23) << 24 | (within(0, 95) & 255) << 16 | (within(0, 3) & 255) << 8 | within(1, 99) & 255;
    }

    private boolean oneCall() throws ReflectiveOperationException {
        String[] words = CALLS[chance.nextInt(CALLS.length)].split(" ");
        if (Arrays.asList(SELDOM).contains(words[0]) && chance.nextInt(3) != 0) {
            return true;
        }
        int[] numbers = new int[words.length - 1];
        for (int i = 0; i < numbers.length; i++) {
            numbers[i] = number(words[i + 1].charAt(0), i == 0 ? 0 : numbers[i - 1]);
        }
        if (words[0].equals("wish")) {
            numbers[3] = number('t', numbers[1]);
        }
        if (words[0].equals("lovers") && chance.nextBoolean()) {
            numbers[1] = Math.min(23, numbers[0] + chance.nextInt(4));
        }
        return alike(words[0], numbers);
    }

    // Texts.

    private String pick(String... some) {
        return some[chance.nextInt(some.length)];
    }

    private String part(int deep) {
        int which = chance.nextInt(12);
        if (which == 0 && deep < 4) {
            return "[" + sum(deep + 1) + "]";
        }
        if (which < 5) {
            return Integer.toString(pick("a", "b").equals("a") ? chance.nextInt(8) : chance.nextInt(1001));
        }
        return pick("cell", "hour", "day", "strike", "pumped", "mills", "natural", "down", "year");
    }

    private String sum(int deep) {
        StringBuilder made = new StringBuilder(part(deep));
        for (int i = chance.nextInt(3); i > 0; i--) {
            made.append(pick("+", "-", "*", "/", "%", " + ", " - ", " * ", " % ")).append(part(deep));
        }
        return made.toString();
    }

    private String plain(int deep) {
        int which = chance.nextInt(8);
        if (which == 0) {
            return "not " + plain(deep);
        }
        if (which == 1 && deep < 4) {
            return "(" + test(deep + 1) + ")";
        }
        return sum(deep) + pick("<", ">", "=", " < ", " > ", " = ") + sum(deep);
    }

    private String test(int deep) {
        StringBuilder made = new StringBuilder(plain(deep));
        for (int i = chance.nextInt(3); i > 0; i--) {
            made.append(pick(" or ", " and ")).append(plain(deep));
        }
        return made.toString();
    }

    private String text() {
        StringBuilder made = new StringBuilder();
        int clauses = 1 + chance.nextInt(5);
        for (int i = 0; i < clauses; i++) {
            String kind = pick("flows", "flows", "costs", "tolls", "bars");
            String sum = kind.equals("flows") && chance.nextInt(3) != 0 ? pick("natural - pumped", "[cell+hour]%7-3", "1-strike*3+mills", "2") : sum(0);
            made.append(i == 0 ? "" : pick(";", " ; ")).append(kind).append(kind.equals("bars") ? "" : " " + sum);
            boolean isAsked = kind.equals("bars") || chance.nextInt(3) != 0;
            made.append(isAsked ? " if " + (chance.nextInt(3) == 0 ? pick("cell%3=1", "hour > 9 and hour < 15", "strike = 1") : test(0)) : "");
        }
        return made.toString();
    }

    private String garbled(String text) {
        StringBuilder made = new StringBuilder(text);
        int at = chance.nextInt(text.length());
        switch (chance.nextInt(4)) {
            case 0: made.deleteCharAt(at); break;
            case 1: made.insert(at, pick("(", ")", "[", "]", ";", "<", "1001", "if ", " 7", "or", "x", "A", "!")); break;
            case 2: made.setCharAt(at, (char) chance.nextInt(256)); break;
            default: made.setLength(at); break;
        }
        return made.toString();
    }

    private boolean feedText(String text) throws ReflectiveOperationException {
        boolean good = alike("end", 0);
        for (int at = 0; at < text.length() && good; at += 20) {
            int[] numbers = new int[5];
            for (int i = 0; i < 20; i++) {
                int sign = at + i < text.length() ? text.charAt(at + i) : 0;
                numbers[i / 4] = numbers[i / 4] << 8 | sign;
            }
            good = alike("feed", numbers);
        }
        return good && alike("end", Math.min(text.length(), 400));
    }

    private boolean oneText() throws ReflectiveOperationException {
        String text = chance.nextInt(3) == 0 ? garbled(text()) : text();
        if (text.length() > 400) {
            return true;
        }
        boolean good = feedText(text) && alike("law") && alike("fault");
        if (good && chance.nextInt(4) != 0) {
            good = alike("force", chance.nextInt(6));
        }
        return good;
    }

    private boolean run() throws ReflectiveOperationException {
        boolean good = true;
        int texts = chance.nextInt(3) == 0 ? 1000000 : 40;
        while (good && calls < 480) {
            good = chance.nextInt(texts) == 0 ? oneText() : oneCall();
        }
        return good;
    }

    public static void main(String[] args) throws ReflectiveOperationException {
        int runs = args.length > 0 ? Integer.parseInt(args[0]) : 150;
        int first = args.length > 1 ? Integer.parseInt(args[1]) : 1;
        int wrong = 0;
        if (METHODS.size() != 52) {
            System.out.println("only " + METHODS.size() + " calls are held against the model");
            wrong++;
        }
        for (int i = 0; i < runs && wrong < 3; i++) {
            if (!new RandomRuns(first + i).run()) {
                System.out.println("seed " + (first + i));
                wrong++;
            }
        }
        System.out.println(runs + " runs by chance, " + wrong + " wrong");
        if (wrong > 0) {
            System.exit(1);
        }
    }
}
