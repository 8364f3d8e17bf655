import java.io.IOException;
import java.lang.reflect.Method;
import java.lang.reflect.Modifier;
import java.nio.file.Files;
import java.nio.file.Path;
import java.util.HashMap;
import java.util.Map;

/**
 * Runs of calls written as rows of text, each run behind words of the document that it holds the class to.
 *
 * A row is a call, its numbers and its answer: "gate 0 0 95 -> 0"; without "->" any answer will do. "3 times" ahead of it
 * calls it so often, the answer is the last one's then. Other rows: "new" goes on with a new object; "tape" and a text in
 * quotes puts that on the tape alone; "rule" and a text makes a law of it that is in force; "good" and a text: it can be a
 * law; "fault", a place and a text: it can't, by the token there. A run begins with a new object.
 */
final class Runs {
    private static final Map<String, Method> CALLS = new HashMap<>();

    static {
        for (Method method : NineRiver.class.getDeclaredMethods()) {
            if (Modifier.isPublic(method.getModifiers())) {
                CALLS.put(method.getName(), method);
            }
        }
    }

    private final String document;
    private NineRiver river = new NineRiver();
    private String words = "";
    private int sentences = 0;
    private int asked = 0;
    private int wrong = 0;

    Runs() throws IOException {
        document = plain(Files.readString(Path.of("../shared/DOC.md")));
    }

    private static String plain(String text) {
        return text.replaceAll("\\s+", " ");
    }

    /** Words of the document, and a run that tells whether they hold. */
    void edge(String sentence, String rows) {
        words = sentence;
        sentences++;
        if (!document.contains(plain(sentence))) {
            say("these words are not the document's");
        }
        int before = asked;
        made(rows);
        if (asked == before) {
            say("nothing is asked");
        }
    }

    /** The object behind a run. */
    NineRiver made(String rows) {
        river = new NineRiver();
        for (String row : rows.split("\n")) {
            if (!row.isBlank()) {
                row(row.strip());
            }
        }
        return river;
    }

    /** Tells how it went; ends with exit code 1 if something was wrong. */
    void end() {
        System.out.println(sentences + " sentences, " + asked + " answers, " + wrong + " not as due");
        if (wrong != 0) {
            System.exit(1);
        }
    }

    private void say(String what) {
        wrong++;
        System.out.println("\"" + words + "\": " + what);
    }

    private void due(String what, int got, int want) {
        asked++;
        if (got != want) {
            say(what + " answered " + got + ", due is " + want);
        }
    }

    private void row(String row) {
        String[] sides = row.endsWith("\"") ? new String[] {row} : row.split(" -> ");
        String[] parts = sides[0].split(" ");
        // fault is a call, too, but has no text.
        switch (row.endsWith("\"") ? parts[0] : parts[0].equals("new") ? "new" : "a call") {
            case "new":
                river = new NineRiver();
                break;
            case "tape":
                write(river, quoted(row));
                break;
            case "rule":
                rule(quoted(row));
                break;
            case "good":
                read(quoted(row), NineRiver.NONE);
                break;
            case "fault":
                read(quoted(row), Integer.parseInt(parts[1]));
                break;
            default:
                calls(sides, parts);
                break;
        }
    }

    private static String quoted(String row) {
        return row.substring(row.indexOf('"') + 1, row.length() - 1).replace("\\n", "\n");
    }

    private void calls(String[] sides, String[] parts) {
        boolean isRepeated = parts.length > 2 && parts[1].equals("times");
        int first = isRepeated ? 2 : 0;
        int[] numbers = new int[parts.length - first - 1];
        for (int i = 0; i < numbers.length; i++) {
            numbers[i] = number(parts[first + 1 + i]);
        }
        int got = 0;
        for (int i = isRepeated ? Integer.parseInt(parts[0]) : 1; i > 0; i--) {
            got = call(river, parts[first], numbers);
        }
        if (sides.length > 1) {
            due(sides[0], got, number(sides[1].strip()));
        }
    }

    private static int number(String word) {
        switch (word) {
            case "MIN":
                return Integer.MIN_VALUE;
            case "MAX":
                return Integer.MAX_VALUE;
            default:
                // Four bytes above 127 are a number below 0.
                return (int) (long) Long.decode(word);
        }
    }

    static int call(NineRiver x, String name, int... numbers) {
        Object[] boxed = new Object[numbers.length];
        for (int i = 0; i < boxed.length; i++) {
            boxed[i] = numbers[i];
        }
        try {
            return (int) CALLS.get(name).invoke(x, boxed);
        } catch (ReflectiveOperationException e) {
            throw new IllegalStateException(name, e);
        }
    }

    /** The tape is this text and nothing else. */
    static void write(NineRiver x, String text) {
        x.end(0);
        for (int at = 0; at < text.length(); at += 20) {
            int[] n = new int[5];
            for (int i = 0; i < 20; i++) {
                n[i / 4] = n[i / 4] << 8 | (at + i < text.length() ? text.charAt(at + i) : 0);
            }
            x.feed(n[0], n[1], n[2], n[3], n[4]);
        }
        if (x.end(text.length()) != text.length()) {
            throw new IllegalArgumentException("no tape has room for " + text);
        }
    }

    private void rule(String text) {
        write(river, text);
        int law = river.law();
        due("law() of " + text + " and fault()", river.fault(), NineRiver.NONE);
        river.force(law);
        due("force(" + law + "), count(15)", river.count(15), law);
    }

    private void read(String text, int place) {
        NineRiver x = new NineRiver();
        write(x, text);
        due("law() of " + text, x.law(), place == NineRiver.NONE ? 0 : -6);
        due("fault() of " + text, x.fault(), place);
    }
}
