import java.util.ArrayList;
import java.util.List;
import java.util.Random;

/**
 * Texts by chance, most of them laws but for a token or two: NineRiver and the Model read them alike, stop at the same
 * place, and tell the same of cells and hours. Arguments: how many texts, the first seed.
 */
public final class LawRuns {
    private static final String[] TOKENS = {"flows", "costs", "tolls", "bars", "if", "or", "and", "not", "cell", "hour", "day", "strike",
        "pumped", "mills", "natural", "down", "year", "(", ")", "[", "]", "<", ">", "=", "+", "-", "*", "/", "%", ";", "0", "1", "2", "1000",
        "1001", "0007", "01000", "99999999999", "cel", "cells", "iff", "Cell", "!", "_", ".", "\t", "\0", "" + (char) 255};

    private final Random chance;
    private final List<String> tokens = new ArrayList<>();
    private final NineRiver river = new NineRiver();
    private final Model model = new Model();

    private LawRuns(long seed) {
        chance = new Random(seed);
    }

    private void add(String... some) {
        tokens.addAll(List.of(some));
    }

    private String one(String... some) {
        return some[chance.nextInt(some.length)];
    }

    private void clause() {
        String kind = one("flows", "flows", "costs", "tolls", "bars");
        add(kind);
        if (!kind.equals("bars")) {
            sum(3);
        }
        if (chance.nextInt(4) > 0) {
            add("if");
            test(3);
        }
    }

    private void test(int room) {
        plain(room);
        while (chance.nextInt(5) < 2) {
            add(one("or", "and"));
            plain(room);
        }
    }

    private void plain(int room) {
        while (chance.nextInt(5) == 0) {
            add("not");
        }
        if (room > 0 && chance.nextInt(4) == 0) {
            add("(");
            test(chance.nextInt(20) == 0 ? room : room - 1);
            add(")");
        } else {
            sum(chance.nextInt(3) == 0 ? room : 0);
            add(one("<", ">", "="));
            sum(0);
        }
    }

    private void sum(int room) {
        part(room);
        while (chance.nextInt(5) < 2) {
            add(one("+", "-", "*", "/", "%", "*"));
            part(room);
        }
    }

    private void part(int room) {
        if (room > 0 && chance.nextInt(3) == 0) {
            add("[");
            sum(chance.nextInt(20) == 0 ? room : room - 1);
            add("]");
        } else if (chance.nextInt(2) == 0) {
            add(one("cell", "hour", "day", "strike", "pumped", "mills", "natural", "down", "year"));
        } else {
            add(one("1000", "" + chance.nextInt(1001), "" + chance.nextInt(30), "" + chance.nextInt(4), "0", "00" + chance.nextInt(9)));
        }
    }

    private String text() {
        int clauses = chance.nextInt(8) == 0 ? 10 + chance.nextInt(5) : 1 + chance.nextInt(4);
        for (int i = 0; i < clauses; i++) {
            if (i > 0) {
                add(";");
            }
            if (clauses > 9 && chance.nextInt(3) > 0) {
                add("bars");
            } else {
                clause();
            }
        }
        for (int i = chance.nextInt(3); i > 0 && !tokens.isEmpty(); i--) {
            int at = chance.nextInt(tokens.size());
            int way = chance.nextInt(4);
            if (way == 0) {
                tokens.remove(at);
            } else if (way == 1) {
                tokens.add(at, one(TOKENS));
            } else if (way == 2) {
                tokens.set(at, one(TOKENS));
            }
        }
        StringBuilder made = new StringBuilder();
        int blanks = 2 + chance.nextInt(10);
        for (String token : tokens) {
            made.append(chance.nextInt(blanks) == 0 ? " ".repeat(1 + chance.nextInt(2)) : "").append(token);
            boolean isWord = Character.isLetterOrDigit(token.charAt(0));
            made.append(isWord && chance.nextInt(60) > 0 ? " " : "");
        }
        int most = chance.nextInt(20) == 0 ? chance.nextInt(made.length() + 1) : 400;
        return made.substring(0, Math.min(most, made.length()));
    }

    private void write(String text) {
        river.end(0);
        model.end(0);
        for (int at = 0; at < text.length(); at += 20) {
            int[] n = new int[5];
            for (int i = 0; i < 20; i++) {
                n[i / 4] = n[i / 4] << 8 | (at + i < text.length() ? text.charAt(at + i) : 0);
            }
            river.feed(n[0], n[1], n[2], n[3], n[4]);
            model.feed(n[0], n[1], n[2], n[3], n[4]);
        }
        river.end(text.length());
        model.end(text.length());
    }

    /** What both answer, one behind the other. */
    private List<int[]> answers() {
        List<int[]> both = new ArrayList<>();
        both.add(new int[] {river.law(), model.law()});
        both.add(new int[] {river.fault(), model.fault()});
        both.add(new int[] {river.force(0), model.force(0)});
        int natural = chance.nextInt(7) - 3;
        both.add(new int[] {river.terms(0, natural), model.terms(0, natural)});
        int year = chance.nextInt(100);
        both.add(new int[] {river.terms(1, year), model.terms(1, year)});
        int strong = chance.nextInt(7);
        both.add(new int[] {river.pump(1, 0, 12, 5, 3, strong), model.pump(1, 0, 12, 5, 3, strong)});
        both.add(new int[] {river.strike(20, 40, 1), model.strike(20, 40, 1)});
        both.add(new int[] {river.mill(3), model.mill(3)});
        for (int i = 0; i < 12; i++) {
            int cell = i % 3 == 0 ? 3 : chance.nextInt(24);
            int hour = chance.nextInt(96);
            both.add(new int[] {river.flow(cell, hour), model.flow(cell, hour)});
            for (int what = 0; what < 4; what++) {
                both.add(new int[] {river.asks(cell, hour, what), model.asks(cell, hour, what)});
            }
        }
        return both;
    }

    /** Whether both read and ask a text alike. */
    private boolean isAlike(long seed) {
        String text = text();
        write(text);
        for (int[] two : answers()) {
            if (two[0] != two[1]) {
                System.out.println("text " + seed + ": " + two[0] + ", the model says " + two[1] + ": " + text);
                return false;
            }
        }
        return true;
    }

    public static void main(String[] args) {
        int texts = args.length > 0 ? Integer.parseInt(args[0]) : 10000;
        long first = args.length > 1 ? Long.parseLong(args[1]) : 1;
        int wrong = 0;
        int laws = 0;
        for (long seed = first; seed < first + texts && wrong < 10; seed++) {
            LawRuns run = new LawRuns(seed);
            wrong += run.isAlike(seed) ? 0 : 1;
            laws += run.river.count(0);
        }
        // Else they would tell nothing.
        boolean isMixed = laws > texts / 4 && laws < texts * 9 / 10;
        System.out.println(texts + " texts by chance, " + laws + " of them laws, " + wrong + " wrong");
        if (wrong != 0 || !isMixed) {
            System.exit(1);
        }
    }
}
