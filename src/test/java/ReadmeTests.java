import java.io.IOException;
import java.lang.reflect.Method;
import java.lang.reflect.Modifier;
import java.net.URL;
import java.net.URLClassLoader;
import java.nio.file.Files;
import java.nio.file.Path;
import java.util.ArrayList;
import java.util.List;
import java.util.regex.Matcher;
import java.util.regex.Pattern;
import javax.tools.ToolProvider;

/** README.md: its Java is compiled and run, each call answers what stands behind it, and each call is named. */
public final class ReadmeTests {
    private static final Pattern BLOCK = Pattern.compile("```java\n(.*?)```", Pattern.DOTALL);
    private static final Pattern ASKED = Pattern.compile("(river\\.\\w+\\(.*\\)); +// (-?\\d+)(:.*)?");

    private static int wrong = 0;

    private static void hold(boolean is, String what) {
        if (!is) {
            wrong++;
            System.out.println("README.md: " + what);
        }
    }

    /** A class made of the page's Java: what is static as it stands, a method for each of the other pieces. */
    private static String program(String page) {
        StringBuilder members = new StringBuilder();
        StringBuilder pieces = new StringBuilder();
        int asked = 0;
        int found = 0;
        for (Matcher block = BLOCK.matcher(page); block.find(); found++) {
            if (block.group(1).startsWith("static ")) {
                members.append(block.group(1));
                continue;
            }
            members.append("static void piece").append(found).append("() {\n");
            for (String line : block.group(1).split("\n")) {
                Matcher answer = ASKED.matcher(line);
                boolean isAsked = answer.matches();
                asked += isAsked ? 1 : 0;
                hold(isAsked || !line.startsWith("river."), "no answer stands behind " + line);
                members.append(isAsked ? "due(" + answer.group(1) + ", " + answer.group(2) + ", \"" + answer.group(1) + "\");" : line).append('\n');
            }
            members.append("}\n");
            pieces.append("piece").append(found).append("();\n");
        }
        hold(asked > 30, "there are too few examples");
        return "public final class Shown {\n"
            + "static int wrong = 0;\n"
            + "static void due(int got, int want, String call) {\n"
            + "if (got != want) { wrong++; System.out.println(\"README.md: \" + call + \" answers \" + got + \", not \" + want); }\n"
            + "}\n"
            + members
            + "public static int run() {\n" + pieces + "return wrong;\n}\n}\n";
    }

    private static void examples(String page) throws IOException, ReflectiveOperationException {
        Path place = Files.createTempDirectory("readme");
        Path source = place.resolve("Shown.java");
        Files.writeString(source, program(page));
        String classes = System.getProperty("java.class.path");
        int failed = ToolProvider.getSystemJavaCompiler().run(null, null, null, "-cp", classes, "-d", place.toString(), source.toString());
        hold(failed == 0, "its Java does not compile");
        if (failed == 0) {
            try (URLClassLoader loader = new URLClassLoader(new URL[] {place.toUri().toURL()}, ReadmeTests.class.getClassLoader())) {
                wrong += (int) loader.loadClass("Shown").getMethod("run").invoke(null);
            }
        }
        for (String file : new String[] {"Shown.class", "Shown.java", ""}) {
            Files.deleteIfExists(place.resolve(file));
        }
    }

    private static List<String> missing(String page) {
        List<String> missing = new ArrayList<>();
        for (Method method : NineRiver.class.getDeclaredMethods()) {
            if (Modifier.isPublic(method.getModifiers()) && !page.contains("`" + method.getName() + "`")) {
                missing.add(method.getName());
            }
        }
        return missing;
    }

    public static void main(String[] args) throws IOException, ReflectiveOperationException {
        String page = Files.readString(Path.of("README.md"));
        examples(page);
        hold(missing(page).isEmpty(), "these calls are not named: " + missing(page));
        for (String file : Path.of("src/test/java").toFile().list()) {
            String name = file.replace(".java", "");
            hold(page.contains("`" + name + "`"), "the test " + name + " is not named");
        }
        System.out.println(wrong == 0 ? "README.md shows what is so" : wrong + " things of README.md are not so");
        if (wrong != 0) {
            System.exit(1);
        }
    }
}
