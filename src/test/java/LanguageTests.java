import java.io.IOException;
import java.lang.reflect.Constructor;
import java.lang.reflect.Field;
import java.lang.reflect.Method;
import java.lang.reflect.Modifier;
import java.nio.file.Files;
import java.nio.file.Path;
import java.util.ArrayList;
import java.util.Arrays;
import java.util.HashSet;
import java.util.LinkedHashSet;
import java.util.List;
import java.util.Map;
import java.util.Set;
import java.util.TreeMap;
import java.util.TreeSet;
import java.util.regex.Matcher;
import java.util.regex.Pattern;

/** The document's face, and what of LANGUAGE.md can be seen from the source and the compiled classes. */
public final class LanguageTests {
    private static int wrong = 0;

    private static void hold(boolean is, String what) {
        if (!is) {
            wrong++;
            System.out.println("not so: " + what);
        }
    }

    private static String told(Class<?>[] types) {
        List<String> names = new ArrayList<>();
        for (Class<?> type : types) {
            names.add(type.getSimpleName());
        }
        return String.join(",", names);
    }

    /** The methods of the document's face, as "name(int,int)". */
    private static Set<String> documentFace() throws IOException {
        String document = Files.readString(Path.of("../shared/DOC.md"));
        Set<String> face = new TreeSet<>();
        Matcher method = Pattern.compile("    public int (\\w+)\\(([^)]*)\\);").matcher(document);
        while (method.find()) {
            face.add(method.group(1) + "(" + method.group(2).replaceAll("int \\w+", "int").replace(", ", ",") + ")");
        }
        return face;
    }

    private static void face() throws IOException {
        Set<String> face = new TreeSet<>();
        Set<String> publicNames = new HashSet<>();
        for (Method method : NineRiver.class.getDeclaredMethods()) {
            if (Modifier.isPublic(method.getModifiers())) {
                face.add(method.getName() + "(" + told(method.getParameterTypes()) + ")");
                publicNames.add(method.getName());
                hold(method.getReturnType() == int.class, method.getName() + " answers an int");
                hold(!Modifier.isStatic(method.getModifiers()), method.getName() + " is no static method");
            } else {
                hold(Modifier.isPrivate(method.getModifiers()), method.getName() + " is private");
            }
        }
        Set<String> due = documentFace();
        hold(due.size() == 52, "the document has 52 methods");
        hold(face.equals(due), "the face is the document's: " + face + " instead of " + due);
        for (Class<?> type : allClasses()) {
            for (Method method : type.getDeclaredMethods()) {
                boolean isOfFace = type == NineRiver.class && Modifier.isPublic(method.getModifiers());
                hold(isOfFace || !publicNames.contains(method.getName()), type + " has no method of a public one's name: " + method.getName());
            }
        }
        Constructor<?>[] made = NineRiver.class.getDeclaredConstructors();
        hold(made.length == 1 && made[0].getParameterCount() == 0 && Modifier.isPublic(made[0].getModifiers()), "one public constructor");
        hold(NineRiver.class.getModifiers() == (Modifier.PUBLIC | Modifier.FINAL), "public and final");
        for (Field field : NineRiver.class.getDeclaredFields()) {
            boolean isConstant = Arrays.asList("NONE", "NOTHING").contains(field.getName());
            hold(isConstant == Modifier.isPublic(field.getModifiers()), field.getName() + " is public or not as due");
            hold(isConstant || Modifier.isPrivate(field.getModifiers()), field.getName() + " is private");
        }
    }

    private static List<Class<?>> allClasses() {
        List<Class<?>> all = new ArrayList<>();
        all.add(NineRiver.class);
        all.addAll(Arrays.asList(NineRiver.class.getDeclaredClasses()));
        return all;
    }

    private static void classes() {
        List<Class<?>> all = allClasses();
        hold(all.size() <= 12, "twelve classes at most");
        for (Class<?> type : all) {
            hold(type == NineRiver.class || Modifier.isStatic(type.getModifiers()), type + " is static");
            hold(type.getDeclaredClasses().length == 0 || type == NineRiver.class, type + " has no class inside");
            int fields = 0;
            for (Field field : type.getDeclaredFields()) {
                boolean isStatic = Modifier.isStatic(field.getModifiers());
                fields += isStatic ? 0 : 1;
                hold(!isStatic || Modifier.isFinal(field.getModifiers()), field + " is final");
                boolean isPlain = Arrays.asList("int", "long", "boolean", "char", "String").contains(field.getType().getSimpleName());
                hold(!isStatic || isPlain, field + " is a plain constant");
            }
            hold(fields <= 20, type + " has twenty fields at most");
            for (Method method : type.getDeclaredMethods()) {
                hold(method.getParameterCount() <= 7, method + " takes seven numbers at most");
                hold(!method.isSynthetic(), method + " is written");
            }
        }
    }

    private static String code(String source) {
        return source.replaceAll("(?s)/\\*.*?\\*/", "").replaceAll("//[^\n]*", "").replaceAll("\"[^\"\n]*\"", "\"\"").replaceAll("'.'", "' '");
    }

    private static void source() throws IOException {
        String source = Files.readString(Path.of("src/main/java/NineRiver.java"));
        String code = code(source);
        String[] words = {"throw", "throws", "try", "catch", "finally", "synchronized", "assert", "native", "volatile", "transient", "default ->", "yield",
            "instanceof", "protected", "package", "HashMap", "Thread", "Random", "System.out", "System.err", "System.nanoTime", "goto", "var", "interface"};
        for (String word : words) {
            hold(!Pattern.compile("(?<![\\w.])" + Pattern.quote(word) + "(?!\\w)").matcher(code).find(), "no " + word);
        }
        hold(!code.contains("->") && !code.contains("::"), "no lambda, no method reference");
        hold(!Pattern.compile("static\\s*\\{").matcher(code).find(), "no static block");
        hold(!code.contains("Exact("), "no Exact");
        hold(!Pattern.compile("\"\"\\s*\\+|\\+\\s*\"\"").matcher(code).find(), "no joining of texts by +");
        hold(code.indexOf("import java.util.Arrays;") == code.indexOf("import") && code.indexOf("import", code.indexOf("import") + 1) < 0, "one import");
        Matcher library = Pattern.compile("\\b(Arrays|System|Math|Integer|Long)\\.(\\w+)").matcher(code);
        List<String> allowed = Arrays.asList("Arrays.copyOf", "Arrays.fill", "System.arraycopy", "Math.max", "Math.min", "Math.abs",
            "Integer.bitCount");
        while (library.find()) {
            hold(allowed.contains(library.group()), "LANGUAGE.md lists " + library.group());
        }
        for (int i = 0; i < source.length(); i++) {
            hold(source.charAt(i) < 128, "signs to 127 alone");
        }
        methodsAreShort(code);
        arraysAreMadeInConstructors(code);
    }

    private static void methodsAreShort(String code) {
        String[] lines = code.split("\n");
        int start = -1;
        int seen = 0;
        String end = "";
        for (int i = 0; i < lines.length; i++) {
            Matcher head = Pattern.compile("( {4}| {8})(?:(?:public|private|static) )*[\\w\\[\\]]+ \\w+\\([^=;]*\\) \\{").matcher(lines[i]);
            if (head.matches()) {
                start = i;
                seen++;
                end = head.group(1) + "}";
            }
            if (start >= 0 && lines[i].equals(end)) {
                hold(i - start + 1 <= 60, "sixty lines at most: " + lines[start].trim());
                start = -1;
            }
        }
        hold(seen > 150, "methods are found");
    }

    private static void arraysAreMadeInConstructors(String code) {
        for (String line : code.split("\n")) {
            boolean isMade = Pattern.compile("\\bnew \\w").matcher(line).find();
            boolean isField = line.contains("private final") || line.contains("this.");
            boolean isKept = line.contains("images[k] = new State()") || line.contains("new Law(");
            hold(!isMade || isField || isKept, "made once: " + line.trim());
        }
    }

    private static final Set<String> LIBRARY = Set.of("java/lang/Object.<init>", "java/lang/Integer.bitCount", "java/lang/Math.abs",
        "java/lang/Math.max", "java/lang/Math.min", "java/lang/String.charAt", "java/lang/System.arraycopy",
        "java/util/Arrays.copyOf", "java/util/Arrays.fill");
    private static final int[] FORBIDDEN = {Bytecode.THROWS, Bytecode.CASTS, Bytecode.ASKS_KIND, Bytecode.LOCKS, Bytecode.UNLOCKS,
        Bytecode.INVOKES_DYNAMIC, Bytecode.INVOKES_INTERFACE, Bytecode.MAKES_ROWS};

    private static void compiled() throws IOException {
        Map<String, Set<String>> calls = new TreeMap<>();
        for (Class<?> type : allClasses()) {
            for (Bytecode method : Bytecode.of(type)) {
                calls.computeIfAbsent(method.name, name -> new TreeSet<>()).addAll(method.calls);
                looksAtWhatItUses(method);
            }
        }
        for (Set<String> called : calls.values()) {
            for (String name : called) {
                hold(calls.containsKey(name) || LIBRARY.contains(name), "LANGUAGE.md lists " + name);
            }
            called.removeAll(LIBRARY);
        }
        Set<String> open = new LinkedHashSet<>();
        for (String name : calls.keySet()) {
            if (name.startsWith("NineRiver.")) {
                int deep = deepest(name, calls, open);
                hold(deep <= 8, name + " goes eight calls deep at most, not " + deep);
            }
        }
        hold(deepest("NineRiver.law", calls, open) >= 7, "calls are found");
    }

    private static void looksAtWhatItUses(Bytecode method) {
        for (int instruction : FORBIDDEN) {
            hold(!method.instructions.contains(instruction), method.name + " has no instruction " + instruction);
        }
        hold(method.handlers == 0, method.name + " catches nothing");
        // A law divides by what its text tells; PromiseTests and TermsTests have the runs that divide by 0.
        hold(method.dividesByConstantsAlone || method.name.equals("NineRiver$Asker.run"), method.name + " divides by constants alone");
        boolean makes = method.instructions.contains(Bytecode.MAKES_OBJECT) || method.instructions.contains(Bytecode.MAKES_NUMBERS)
            || method.instructions.contains(Bytecode.MAKES_REFERENCES);
        boolean mayMake = method.name.endsWith(".<init>") || List.of("NineRiver.image", "NineRiver$Reader.read").contains(method.name);
        hold(!makes || mayMake, method.name + " makes nothing");
    }

    /** How many methods stand open at most, each counted once. */
    private static int deepest(String name, Map<String, Set<String>> calls, Set<String> open) {
        open.add(name);
        int most = 0;
        for (String called : calls.getOrDefault(name, Set.of())) {
            if (!open.contains(called)) {
                most = Math.max(most, deepest(called, calls, open));
            }
        }
        open.remove(name);
        return most + 1;
    }

    public static void main(String[] args) throws IOException {
        face();
        classes();
        source();
        compiled();
        System.out.println(wrong == 0 ? "the language is kept" : wrong + " rules are not kept");
        if (wrong != 0) {
            System.exit(1);
        }
    }
}
