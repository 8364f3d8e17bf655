/**
 * For each promise of the document its ordinary answers, the edges that it names and its wrong inputs, worked out by
 * hand. A section's number is the promise's.
 */
public final class PromiseTests {
    private static final int NONE = -1;
    private static final int NOTHING = -1000;

    private static int wrong = 0;
    private static int asked = 0;

    private static void due(int promise, String call, int got, int want) {
        asked++;
        if (got != want) {
            wrong++;
            System.out.println("promise " + promise + ": " + call + " answered " + got + ", due is " + want);
        }
    }

    /** The tape is this text and nothing else. */
    private static void write(NineRiver x, String text) {
        x.end(0);
        for (int at = 0; at < text.length(); at += 20) {
            int[] n = new int[5];
            for (int i = 0; i < 20; i++) {
                n[i / 4] = n[i / 4] << 8 | (at + i < text.length() ? text.charAt(at + i) : 0);
            }
            x.feed(n[0], n[1], n[2], n[3], n[4]);
        }
        x.end(text.length());
    }

    private static NineRiver lawful(String text) {
        NineRiver x = new NineRiver();
        write(x, text);
        due(14, "law() of " + text, x.law(), 0);
        due(16, "force(0)", x.force(0), NONE);
        return x;
    }

    /** A text's fault; NONE if it becomes a law. */
    private static void fault(String text, int place) {
        NineRiver x = new NineRiver();
        write(x, text);
        due(14, "law() of " + text, x.law(), place == NONE ? 0 : -6);
        due(15, "fault() of " + text, x.fault(), place);
        due(14, "count(0) behind " + text, x.count(0), place == NONE ? 1 : 0);
        due(14, "count(9) behind " + text, x.count(9), 0);
    }

    private static void flows(String text, int cell, int hour, int flow) {
        due(17, "flow(" + cell + ", " + hour + ") by " + text, lawful(text).flow(cell, hour), flow);
    }

    /** The call was refused, and is told and counted so; what it says is counted since the object was made. */
    private static void refused(int promise, NineRiver x, String call, int got, int by) {
        due(promise, call, got, by);
        due(53, "status() behind " + call, x.status(), by);
    }

    private static String repeat(String text, int times, String between) {
        StringBuilder made = new StringBuilder();
        for (int i = 0; i < times; i++) {
            made.append(i == 0 ? "" : between).append(text);
        }
        return made.toString();
    }

    private static void promise1() {
        NineRiver x = new NineRiver();
        for (int cell = 0; cell < 24; cell++) {
            due(1, "flow(" + cell + ", 95)", x.flow(cell, 95), 1);
            due(1, "asks(.., 0)", x.asks(cell, 0, 0), 1);
            due(1, "asks(.., 1)", x.asks(cell, 0, 1), 0);
            due(1, "asks(.., 2)", x.asks(cell, 0, 2), 0);
        }
        for (int what = 0; what < 15; what++) {
            due(1, "count(" + what + ")", x.count(what), 0);
        }
        due(1, "count(15)", x.count(15), NONE);
        due(1, "status()", x.status(), 0);
        due(1, "foam()", x.foam(), 0);
        due(1, "fault()", x.fault(), NONE);
        due(1, "drawn(0)", x.drawn(0), NONE);
        due(1, "back(0)", x.back(0), -2);
        due(1, "terms(0, 0)", x.terms(0, 0), 1);
        due(1, "terms(1, 0)", x.terms(1, 0), 0);
    }

    private static void promise2() {
        NineRiver x = new NineRiver();
        due(2, "pump over midnight", x.pump(1, 3, 5, 22, 2, 2), 0);
        due(2, "flow(3, 22)", x.flow(3, 22), -1);
        due(2, "flow(5, 23)", x.flow(5, 23), -1);
        due(2, "flow(4, 25)", x.flow(4, 25), -1);
        due(2, "flow(4, 26)", x.flow(4, 26), 1);
        due(2, "flow(4, 21)", x.flow(4, 21), 1);
        due(2, "flow(2, 22)", x.flow(2, 22), 1);
        due(2, "flow(6, 22)", x.flow(6, 22), 1);
        due(2, "pump always", x.pump(0, 4, 4, 7, 7, 1), 0);
        due(2, "flow(4, 22) by both", x.flow(4, 22), -2);
        due(2, "flow(4, 6)", x.flow(4, 6), 0);
        due(2, "flow(4, 7)", x.flow(4, 7), 0);
        due(2, "pump anew", x.pump(1, 0, 23, 0, 0, 0), 0);
        due(2, "flow(3, 22)", x.flow(3, 22), 1);
        due(2, "the strongest", x.pump(1, 0, 23, 0, 23, 6), 0);
        due(2, "flow(4, 0) nearest", x.flow(4, 0), -6);
        due(2, "flow(4, 23)", x.flow(4, 23), 0);
        refused(2, x, "pump(0, -1, ..)", x.pump(0, -1, 0, 0, 0, 0), -1);
        refused(2, x, "pump(0, 0, 24, ..)", x.pump(0, 0, 24, 0, 0, 0), -1);
        refused(2, x, "pump(0, 5, 4, ..)", x.pump(0, 5, 4, 0, 0, 0), -1);
        refused(2, x, "pump c -1", x.pump(0, 0, 0, -1, 0, 0), -1);
        refused(2, x, "pump c 24", x.pump(0, 0, 0, 24, 0, 0), -1);
        refused(2, x, "pump d -1", x.pump(0, 0, 0, 0, -1, 0), -1);
        refused(2, x, "pump d 24", x.pump(0, 0, 0, 0, 24, 0), -1);
        refused(2, x, "pump strong 7", x.pump(0, 0, 0, 0, 0, 7), -1);
        refused(2, x, "pump strong -1", x.pump(0, 0, 0, 0, 0, -1), -1);
        refused(2, x, "pump(2, ..)", x.pump(2, 0, 0, 0, 0, 0), -2);
        refused(2, x, "pump(-1, ..)", x.pump(-1, 0, 0, 0, 0, 0), -2);
        refused(2, x, "pump(2, .., 7): -1 ahead of -2", x.pump(2, 0, 0, 0, 0, 7), -1);
        due(2, "of(0, 0) is as it was", x.of(0, 0), 4);
    }

    private static void promise3() {
        NineRiver x = new NineRiver();
        int[] first = {0, 23, 0, 0, 0};
        int[] told = {2, 9, 20, 4, 5};
        for (int what = 0; what < 5; what++) {
            due(3, "of(1, " + what + ") at first", x.of(1, what), first[what]);
        }
        x.pump(1, 2, 9, 20, 4, 5);
        for (int what = 0; what < 5; what++) {
            due(3, "of(1, " + what + ")", x.of(1, what), told[what]);
            due(3, "of(0, " + what + ")", x.of(0, what), first[what]);
        }
        due(3, "of(-1, 0)", x.of(-1, 0), NONE);
        due(3, "of(2, 0)", x.of(2, 0), NONE);
        due(3, "of(0, -1)", x.of(0, -1), NONE);
        due(3, "of(1, 5)", x.of(1, 5), NONE);
        due(53, "status()", x.status(), 0);
    }

    private static void promise4() {
        NineRiver x = new NineRiver();
        x.pump(0, 0, 23, 0, 0, 4);
        due(4, "strike(10, 20, 1)", x.strike(10, 20, 1), 11);
        due(4, "strike(5, 12, 1)", x.strike(5, 12, 1), 5);
        due(4, "count(1)", x.count(1), 16);
        due(4, "flow(0, 5)", x.flow(0, 5), 1);
        due(4, "flow(0, 20)", x.flow(0, 20), 1);
        due(4, "flow(0, 21)", x.flow(0, 21), -3);
        due(4, "flow(0, 4)", x.flow(0, 4), -3);
        due(4, "strike(95, 95, 1)", x.strike(95, 95, 1), 1);
        due(4, "strike(0, 0, 0)", x.strike(0, 0, 0), 0);
        due(4, "strike(0, 95, 0)", x.strike(0, 95, 0), 17);
        due(4, "flow(0, 95)", x.flow(0, 95), -3);
        refused(4, x, "strike(5, 4, 1)", x.strike(5, 4, 1), -1);
        refused(4, x, "strike(-1, 4, 1)", x.strike(-1, 4, 1), -1);
        refused(4, x, "strike(0, 96, 1)", x.strike(0, 96, 1), -1);
        refused(4, x, "strike(0, 4, 2)", x.strike(0, 4, 2), -1);
        refused(4, x, "strike(0, 4, -1)", x.strike(0, 4, -1), -1);
        due(4, "count(1)", x.count(1), 0);
    }

    private static void promise5() {
        NineRiver x = new NineRiver();
        x.terms(0, 3);
        due(5, "gate(5, 0, 2)", x.gate(5, 0, 2), 0);
        due(5, "where(4, 0, 1)", x.where(4, 0, 1), 5);
        due(5, "where(5, 0, 3)", x.where(5, 0, 3), 5);
        due(5, "where(5, 0, 4)", x.where(5, 0, 4), 8);
        due(5, "gate(23, 0, 95)", x.gate(23, 0, 95), 1);
        due(5, "where(20, 0, 96)", x.where(20, 0, 96), 23);
        x.terms(0, -3);
        due(5, "up: where(7, 0, 1)", x.where(7, 0, 1), 6);
        due(5, "up: where(5, 0, 1)", x.where(5, 0, 1), 2);
        due(5, "up: not above 0", x.where(1, 0, 2), 0);
        for (int i = 2; i < 8; i++) {
            due(5, "gate(0, 95, 95)", x.gate(0, 95, 95), i);
        }
        refused(5, x, "the ninth", x.gate(0, 0, 0), -5);
        refused(5, x, "gate(24, 0, 0): -1 ahead of -5", x.gate(24, 0, 0), -1);
        refused(5, x, "gate(-1, 0, 0)", x.gate(-1, 0, 0), -1);
        refused(5, x, "gate(0, -1, 0)", x.gate(0, -1, 0), -1);
        refused(5, x, "gate(0, 0, 96)", x.gate(0, 0, 96), -1);
        refused(5, x, "gate(0, 3, 2)", x.gate(0, 3, 2), -1);
        due(5, "count(2)", x.count(2), 8);
    }

    private static void promise6() {
        NineRiver x = new NineRiver();
        x.gate(1, 0, 95);
        x.gate(5, 0, 95);
        x.gate(9, 0, 95);
        due(6, "open(0)", x.open(0), 2);
        due(6, "where(0, 0, 20)", x.where(0, 0, 20), 5);
        due(6, "those behind it move up: open(1)", x.open(1), 1);
        due(6, "where(6, 0, 10)", x.where(6, 0, 10), 16);
        due(6, "where(0, 0, 20)", x.where(0, 0, 20), 5);
        refused(6, x, "open(1)", x.open(1), -2);
        refused(6, x, "open(-1)", x.open(-1), -2);
        due(6, "open(0)", x.open(0), 0);
        refused(6, x, "open(0)", x.open(0), -2);
        due(6, "gate again", x.gate(3, 0, 0), 0);
    }

    private static void promise7() {
        NineRiver x = lawful("flows mills");
        for (int i = 0; i < 6; i++) {
            due(7, "mill", x.mill(i < 4 ? 7 : 23), i);
        }
        due(7, "mills at 7", x.flow(7, 0), 4);
        due(7, "mills at 23", x.flow(23, 95), 2);
        due(7, "mills at 8", x.flow(8, 0), 0);
        refused(7, x, "the seventh", x.mill(0), -5);
        refused(7, x, "mill(24)", x.mill(24), -1);
        refused(7, x, "mill(-1)", x.mill(-1), -1);
        due(7, "count(3)", x.count(3), 6);
    }

    private static void promise8() {
        NineRiver x = new NineRiver();
        x.mill(4);
        x.mill(20);
        x.pump(0, 4, 4, 9, 12, 3);
        due(8, "grinds either way", x.grinds(0, 8, 12), 8);
        due(8, "grinds(0, 9, 9)", x.grinds(0, 9, 9), 2);
        due(8, "grinds(1, 0, 95)", x.grinds(1, 0, 95), 96);
        due(8, "grinds(2, 0, 0)", x.grinds(2, 0, 0), NONE);
        due(8, "grinds(-1, 0, 0)", x.grinds(-1, 0, 0), NONE);
        due(8, "grinds(0, -1, 0)", x.grinds(0, -1, 0), NONE);
        due(8, "grinds(0, 0, 96)", x.grinds(0, 0, 96), NONE);
        due(8, "grinds(0, 2, 1)", x.grinds(0, 2, 1), NONE);
        due(8, "count(10): NONE is no refusal", x.count(10), 0);
        x.gate(20, 0, 95);
        due(8, "behind a shut gate it grinds, too", x.grinds(1, 0, 9), 10);
    }

    private static void promise9() {
        NineRiver x = new NineRiver();
        due(9, "terms(0, -3)", x.terms(0, -3), 1);
        due(9, "flow(0, 0)", x.flow(0, 0), -3);
        due(9, "terms(0, 3)", x.terms(0, 3), -3);
        due(9, "terms(1, 99)", x.terms(1, 99), 0);
        due(9, "terms(1, 0)", x.terms(1, 0), 99);
        int[][] bad = {{0, 4}, {0, -4}, {1, 100}, {1, -1}, {2, 0}, {-1, 0}};
        for (int[] b : bad) {
            due(9, "terms(" + b[0] + ", " + b[1] + ")", x.terms(b[0], b[1]), NOTHING);
            due(53, "status()", x.status(), -1);
        }
        due(52, "count(10)", x.count(10), 6);
        due(9, "terms(0, 1)", x.terms(0, 1), 3);
        due(53, "status()", x.status(), 0);
        NineRiver y = lawful("flows year; flows natural if year = 2");
        y.terms(1, 4);
        due(9, "year in a law", y.flow(0, 0), 4);
        y.terms(1, 2);
        y.terms(0, -2);
        due(9, "natural in a law", y.flow(0, 0), -2);
    }

    private static void promise10and11() {
        NineRiver x = new NineRiver();
        for (int i = 1; i <= 20; i++) {
            due(10, "feed", x.feed(0, 0, 0, 0, 0), 20 * i);
        }
        due(10, "feed beyond 400", x.feed(0, 0, 0, 0, 0), NONE);
        due(10, "count(9)", x.count(9), 400);
        due(11, "end(400)", x.end(400), 400);
        due(11, "end(401)", x.end(401), NONE);
        due(11, "end(-1)", x.end(-1), NONE);
        due(11, "end(381)", x.end(381), 381);
        due(10, "feed to 401", x.feed(0, 0, 0, 0, 0), NONE);
        due(11, "end(380)", x.end(380), 380);
        due(11, "end(381) of 380", x.end(381), NONE);
        due(10, "feed to 400", x.feed(0, 0, 0, 0, 0), 400);
        due(11, "end(0)", x.end(0), 0);
        due(11, "end(1) of 0", x.end(1), NONE);
        due(53, "NONE is no refusal", x.status(), 0);
        // Bytes come the highest first, one above 127 too: cell 1, hour 2, colour 3, amount 4; then cell 255.
        x.feed(0x01020304, 0xFF000001, 0, 0, 0x05060163);
        due(12, "row()", x.row(), 2);
        due(10, "dye(1, 2, 3)", x.dye(1, 2, 3), 4);
        due(10, "dye(5, 6, 1)", x.dye(5, 6, 1), 99);
        due(13, "foam()", x.foam(), 3);
    }

    private static void promise12and13() {
        NineRiver x = lawful("bars if cell = 9 and hour < 5");
        refused(12, x, "row() of an empty tape", x.row(), -6);
        due(13, "foam() ahead of any", x.foam(), 0);
        // Barred, cell 24, hour 96, colour 4, amount 0.
        x.feed(0x09000001, 0x18000001, 0x00600001, 0x00000401, 0x00000000);
        due(12, "row() of foam alone", x.row(), 0);
        due(13, "foam()", x.foam(), 5);
        due(12, "the tape is empty then", x.count(9), 0);
        due(53, "status()", x.status(), 0);
        // Not barred in hour 5, amount 100, cell 23, hour 95, and three bytes.
        x.feed(0x09050001, 0x00000064, 0x17000363, 0x005F0001, 0x01010100);
        x.end(19);
        due(12, "row()", x.row(), 3);
        due(13, "foam()", x.foam(), 2);
        refused(12, x, "row()", x.row(), -6);
        due(13, "foam() of the latest that was not refused", x.foam(), 2);
        due(12, "count(5)", x.count(5), 3);
        for (int i = 0; i < 3; i++) {
            x.feed(1, 1, 1, 1, 1);
        }
        due(12, "no room for more than 16", x.row(), 13);
        due(13, "foam()", x.foam(), 2);
        due(12, "count(5)", x.count(5), 16);
        x.undo();
        x.image(0);
        x.feed(1, 1, 1, 1, 1);
        x.end(3);
        due(12, "row() of three bytes", x.row(), 0);
        due(13, "foam()", x.foam(), 1);
        x.back(0);
        due(51, "images do not keep foam", x.foam(), 1);
    }

    private static void promise14and15() {
        fault("bars", NONE);
        fault("flows 1", NONE);
        fault("  flows   1  ", NONE);
        fault("flows1", NONE);
        fault("", 0);
        fault("   ", 3);
        fault("flow 1", 0);
        fault(" flowsx 1", 1);
        fault("flows", 5);
        fault("flows ", 6);
        fault("flows 1 2", 8);
        fault("flows 1;", 8);
        fault("flows 1;;", 8);
        fault(";", 0);
        fault("bars 1", 5);
        fault("bars bars", 5);
        fault("bars if", 7);
        fault("bars if cell", 12);
        fault("bars if cell <", 14);
        fault("bars if cell < 1 if", 17);
        fault("bars if cell < 1 < 2", 17);
        fault("bars if cell <= 1", 14);
        fault("bars if not", 11);
        fault("bars if not not cell = 1", NONE);
        fault("bars if (cell = 1", 17);
        fault("bars if (cell) = 1", 13);
        fault("bars if [cell] = 1", NONE);
        fault("bars if [cell = 1]", 14);
        fault("bars if (cell = 1))", 18);
        fault("bars if cell = 1 or", 19);
        fault("bars if cell = 1 and or", 21);
        fault("bars if or", 8);
        fault("flows (1)", 6);
        fault("flows -1", 6);
        fault("flows 1 +", 9);
        fault("flows 1 + + 2", 10);
        fault("flows 1 and 2", 8);
        fault("flows [1", 8);
        fault("flows []", 7);
        fault("flows [1)", 8);
        fault("flows 1000", NONE);
        fault("flows 1001", 6);
        fault("flows 0001000", NONE);
        fault("flows 99999999999999999999", 6);
        fault("flows 2+cell*1001", 13);
        fault("flows Cell", 6);
        fault("flows 1\t", 7);
        fault("flows 1" + (char) 200, 7);
        fault("flows 1" + (char) 0, 7);
        fault("flows cells", 6);
        fault("flows cellz", 6);
        fault("flows zcell", 6);
        fault("flows bell", 6);
        fault("glows 1", 0);
        fault("flows naturals", 6);
        fault("flows naturally", 6);
        fault("flows cellhour", 6);
        fault("flows if", 6);
        fault("flows 1if1=1", NONE);
        fault("flows flows", 6);
        fault("costs cell+hour-day*strike/pumped%mills+natural+down+year if 1 = 1", NONE);
        limits();
        room();
    }

    private static void limits() {
        fault(repeat("bars", 12, ";"), NONE);
        fault(repeat("bars", 13, ";"), 60);
        fault(repeat("bars", 12, ";") + "; ", 61);
        fault(repeat("bars", 12, ";") + ";x", 60);
        fault("flows " + repeat("1", 50, "+"), NONE);
        fault("flows " + repeat("1", 51, "+"), 106);
        fault("flows " + repeat("1", 49, "+") + ";flows day;flows 1", 120);
        fault("flows " + repeat("[", 8, "") + "1" + repeat("]", 8, ""), NONE);
        fault("flows " + repeat("[", 9, "") + "1" + repeat("]", 9, ""), 14);
        fault("bars if " + repeat("(", 8, "") + "1=1" + repeat(")", 8, ""), NONE);
        fault("bars if " + repeat("(", 9, "") + "1=1" + repeat(")", 9, ""), 16);
        fault("bars if " + repeat("(", 5, "") + repeat("[", 3, "") + "1" + repeat("]", 3, "") + "=1" + repeat(")", 5, ""), NONE);
        fault("bars if " + repeat("(", 5, "") + repeat("[", 4, "") + "1" + repeat("]", 4, "") + "=1" + repeat(")", 5, ""), 16);
        fault("flows " + repeat("[[[[[[[[1]]]]]]]]", 3, "+"), NONE);
        fault("bars if " + repeat("not", 97, " ") + " 1", 397);
        fault("bars if " + repeat("not", 96, " ") + " 1=1", NONE);
        fault(repeat(" ", 400, ""), 400);
        fault(repeat(" ", 396, "") + "bars", NONE);
    }

    private static void room() {
        NineRiver x = new NineRiver();
        for (int i = 0; i < 6; i++) {
            write(x, "flows " + i);
            due(14, "law()", x.law(), i);
        }
        due(15, "fault()", x.fault(), NONE);
        write(x, "flows (");
        refused(14, x, "the seventh", x.law(), -5);
        due(15, "fault() was not read", x.fault(), NONE);
        due(14, "the tape is empty then, too", x.count(9), 0);
        due(14, "count(0)", x.count(0), 6);
        for (int i = 0; i < 6; i++) {
            x.force(i);
            due(14, "flow by law " + i, x.flow(0, 0), i);
        }
        NineRiver z = new NineRiver();
        for (int i = 0; i < 6; i++) {
            write(z, repeat("bars if cell=1", 11, ";") + ";flows " + i + "+" + repeat("1-1", 13, "+"));
            due(14, "law() of as much as can be", z.law(), i);
        }
        for (int i = 0; i < 6; i++) {
            z.force(i);
            due(14, "flow by long law " + i, z.flow(0, 0), i);
            due(14, "barred by long law " + i, z.asks(1, 0, 1), 1);
        }
        NineRiver y = new NineRiver();
        write(y, "flows (");
        refused(14, y, "law()", y.law(), -6);
        due(15, "fault()", y.fault(), 6);
        write(y, "flows 2");
        due(15, "fault() ahead of the next", y.fault(), 6);
        due(14, "law()", y.law(), 0);
        due(15, "fault()", y.fault(), NONE);
        due(14, "no law is in force by being told", y.flow(0, 0), 1);
    }

    private static void promise16() {
        NineRiver x = new NineRiver();
        refused(16, x, "force(0)", x.force(0), -2);
        due(16, "force(NONE)", x.force(NONE), NONE);
        due(53, "status()", x.status(), 0);
        write(x, "flows 3");
        x.law();
        write(x, "flows 5");
        x.law();
        due(16, "force(1)", x.force(1), NONE);
        due(16, "flow", x.flow(0, 0), 5);
        due(16, "force(0)", x.force(0), 1);
        due(16, "flow", x.flow(0, 0), 3);
        due(52, "count(15)", x.count(15), 0);
        refused(16, x, "force(2)", x.force(2), -2);
        refused(16, x, "force(-2)", x.force(-2), -2);
        due(16, "flow", x.flow(0, 0), 3);
        due(16, "force(NONE)", x.force(NONE), 0);
        due(16, "flow", x.flow(0, 0), 1);
        due(52, "count(15)", x.count(15), NONE);
    }

    private static void promise17() {
        NineRiver x = new NineRiver();
        due(17, "flow(0, 0)", x.flow(0, 0), 1);
        due(17, "flow(23, 95)", x.flow(23, 95), 1);
        due(17, "flow(-1, 0)", x.flow(-1, 0), NOTHING);
        due(17, "flow(24, 0)", x.flow(24, 0), NOTHING);
        due(17, "flow(0, -1)", x.flow(0, -1), NOTHING);
        due(17, "flow(0, 96)", x.flow(0, 96), NOTHING);
        flows("flows 7", 0, 0, 6);
        flows("flows 0-7", 0, 0, -6);
        flows("flows 2; flows 3", 0, 0, 3);
        flows("flows 2; flows 3 if cell > 4", 4, 0, 2);
        flows("flows 2; flows 3 if cell > 4", 5, 0, 3);
        flows("costs 5", 0, 0, 1);
        flows("flows hour", 0, 29, 5);
        flows("flows day", 0, 95, 3);
        flows("flows cell", 4, 95, 4);
        flows("flows down", 4, 95, -1);
        flows("flows 2 + 3 * 2 - 4", 0, 0, 4);
        flows("flows 9 - 3 - 2", 0, 0, 4);
        flows("flows 9 - [3 - 2] * 5", 0, 0, 4);
        flows("flows 40 / 4 / 5", 0, 0, 2);
        flows("flows 40 / [4 * 4]", 0, 0, 2);
        flows("flows [0-7] / 2", 0, 0, -3);
        flows("flows [0-7] % 4", 0, 0, -3);
        flows("flows 7 % [0-4]", 0, 0, 3);
        flows("flows 17 % 10 * 2 % 9", 0, 0, 5);
        broken();
        tests();
        NineRiver y = lawful("flows 4 if strike = 1; flows 0 - pumped if strike = 0");
        y.pump(0, 0, 5, 0, 12, 3);
        y.pump(1, 5, 9, 6, 0, 2);
        y.strike(7, 7, 1);
        due(17, "pumped of one", y.flow(5, 5), -3);
        due(17, "pumped of both", y.flow(5, 6), -5);
        due(17, "pumped of the other", y.flow(6, 23), -2);
        due(17, "pumped of none", y.flow(6, 0), 0);
        due(17, "strike", y.flow(5, 7), 4);
        NineRiver z = lawful("flows pumped + 2 if strike = 1");
        z.pump(0, 0, 23, 0, 0, 3);
        z.strike(0, 0, 1);
        due(17, "pumped is 0 in a strike", z.flow(5, 0), 2);
        due(17, "no clause holds", z.flow(5, 1), -2);
    }

    private static void broken() {
        flows("flows 4; flows 1/0", 0, 0, 4);
        flows("flows 4; flows 1%0", 0, 0, 4);
        flows("flows 4; flows 2 if 1/cell = 0", 0, 0, 4);
        flows("flows 4; flows 2 if 1/cell = 0", 2, 0, 2);
        flows("flows 4; flows 2 if not 1/0 = 0", 0, 0, 4);
        flows("flows 5; flows 2 if 1000*1000*1000 > 0", 0, 0, 2);
        flows("flows 5; flows 2 if 1000*1000*1000+1 > 0", 0, 0, 5);
        flows("flows 5; flows 2 if 1000*1000*1000+1-1 > 0", 0, 0, 5);
        flows("flows 5; flows 2 if 0-1000*1000*1000 < 0", 0, 0, 2);
        flows("flows 5; flows 2 if 0-1000*1000*1000-1 < 0", 0, 0, 5);
        flows("flows 5; flows 1000*1000*1000", 0, 0, 6);
        flows("flows 5; flows 1000*1000*1000+1", 0, 0, 5);
    }

    private static void tests() {
        flows("flows 3 if 1 = 1 or 1/0 = 1", 0, 0, 3);
        flows("flows 3 if 1/0 = 1 or 1 = 1", 0, 0, 1);
        flows("flows 3 if 1 = 2 or 1/0 = 1", 0, 0, 1);
        flows("flows 3 if 1 = 2 and 1/0 = 1 or 1 = 1", 0, 0, 3);
        flows("flows 3 if not (1 = 2 and 1/0 = 1)", 0, 0, 3);
        flows("flows 3 if not (1 = 1 and 1/0 = 1)", 0, 0, 1);
        flows("flows 3 if 1 = 1 or 1/0 = 1 and 1/0 = 1 or 1/0 = 1", 0, 0, 3);
        flows("flows 3 if 1 = 1 or 1 = 1 and 1 = 2", 0, 0, 3);
        flows("flows 3 if (1 = 1 or 1 = 1) and 1 = 2", 0, 0, 1);
        flows("flows 3 if 1 = 2 and 1 = 1 or 1 = 2 and 1 = 1 or 2 > 1 and 1 < 2", 0, 0, 3);
        flows("flows 3 if 1 = 1 and 1 = 1 and 1 = 2", 0, 0, 1);
        flows("flows 3 if not 1 = 1 or 1 = 1", 0, 0, 3);
        flows("flows 3 if not not 1 = 1", 0, 0, 3);
        flows("flows 3 if not not not 1 = 1", 0, 0, 1);
        flows("flows 3 if 1 < 1", 0, 0, 1);
        flows("flows 3 if 1 > 1", 0, 0, 1);
        flows("flows 3 if 1 < 2", 0, 0, 3);
        flows("flows 3 if 2 > 1", 0, 0, 3);
        flows("flows 3 if 2 < 1", 0, 0, 1);
        flows("flows 3 if 1 > 2", 0, 0, 1);
        flows("flows 3 if [1+1]*2 = 2*[3-1] and (2 = 2)", 0, 0, 3);
    }

    private static void promise18() {
        NineRiver x = lawful("costs 5; costs 7 if cell = 1; costs 1000 if cell = 2; costs 0-4 if cell = 3;"
            + "bars if cell = 4; bars if 1 = 2; tolls 3 + down; tolls 100 if cell = 5; tolls 0-1 if cell = 6");
        due(18, "costs", x.asks(0, 0, 0), 5);
        due(18, "costs, the last that holds", x.asks(1, 0, 0), 7);
        due(18, "costs, the nearest", x.asks(2, 0, 0), 999);
        due(18, "costs, the nearest", x.asks(3, 0, 0), 0);
        due(18, "barred", x.asks(4, 0, 1), 1);
        due(18, "barred by any that holds", x.asks(3, 0, 1), 0);
        due(18, "tolled down", x.asks(0, 0, 2), 4);
        due(18, "tolled up", x.asks(0, 0, 3), 3);
        due(18, "tolled, the nearest", x.asks(5, 0, 2), 99);
        due(18, "tolled, the nearest", x.asks(6, 0, 3), 0);
        due(18, "asks(.., 4)", x.asks(0, 0, 4), NONE);
        due(18, "asks(.., -1)", x.asks(0, 0, -1), NONE);
        due(18, "asks(24, ..)", x.asks(24, 0, 0), NONE);
        due(18, "asks(-1, ..)", x.asks(-1, 0, 1), NONE);
        due(18, "asks(0, 96, ..)", x.asks(0, 96, 2), NONE);
        due(18, "asks(0, -1, ..)", x.asks(0, -1, 3), NONE);
        NineRiver y = lawful("costs 2 + down; bars if down = 0 - 1 and hour = 3");
        due(18, "down is -1 otherwise", y.asks(0, 0, 0), 1);
        due(18, "down is -1 otherwise", y.asks(0, 27, 1), 1);
        due(18, "without tolls", y.asks(0, 0, 2), 0);
        NineRiver z = lawful("bars; costs 1/0");
        due(18, "bars always", z.asks(9, 9, 1), 1);
        due(18, "costs broken", z.asks(9, 9, 0), 1);
        NineRiver v = lawful("costs 0; bars; tolls mills");
        due(18, "barred and free", v.asks(0, 0, 1), 1);
        due(18, "barred and free", v.asks(0, 0, 0), 0);
        v.mill(5);
        due(18, "tolled by mills", v.asks(5, 0, 2), 1);
        v.mill(5);
        due(18, "tolled by mills anew", v.asks(5, 0, 3), 2);
        NineRiver w = lawful("costs cell + hour * 10 + day * 100 + mills");
        w.mill(3);
        due(18, "costs by the words", w.asks(3, 53, 0), 254);
    }

    private static void promise19() {
        NineRiver x = new NineRiver();
        due(19, "where(0, 95, 96)", x.where(0, 95, 96), 1);
        due(19, "where(5, 7, 7)", x.where(5, 7, 7), 5);
        due(19, "where(0, 0, 96)", x.where(0, 0, 96), 24);
        due(19, "where(0, 0, 23)", x.where(0, 0, 23), 23);
        due(19, "where(0, 0, 97)", x.where(0, 0, 97), NONE);
        due(19, "where(0, 96, 96)", x.where(0, 96, 96), NONE);
        due(19, "where(0, -1, 0)", x.where(0, -1, 0), NONE);
        due(19, "where(24, 0, 0)", x.where(24, 0, 0), NONE);
        due(19, "where(-1, 0, 0)", x.where(-1, 0, 0), NONE);
        due(19, "where(0, 5, 4)", x.where(0, 5, 4), NONE);
        NineRiver y = lawful("flows cell");
        due(19, "by the cell in which it begins the hour", y.where(1, 0, 3), 8);
        due(19, "to the sea", y.where(20, 0, 1), 24);
        NineRiver z = lawful("flows 0-5");
        due(19, "not above 0", z.where(3, 0, 1), 0);
        due(19, "the sea stays", lawful("flows 6-hour*12").where(20, 0, 40), 24);
    }

    private static void promise20() {
        NineRiver x = new NineRiver();
        due(20, "below(3, 0, 0)", x.below(3, 0, 0), 8);
        due(20, "below(3, 0, 1)", x.below(3, 0, 1), 24);
        due(20, "below(0, 94, 96)", x.below(0, 94, 96), 7);
        due(20, "below(0, 0, 96)", x.below(0, 0, 96), (1 << 25) - 1);
        due(20, "below(23, 0, 1)", x.below(23, 0, 1), 3 << 23);
        x.terms(0, -2);
        due(20, "up", x.below(5, 0, 96), 1 << 5 | 1 << 3 | 2 | 1);
        due(20, "below(24, 0, 0)", x.below(24, 0, 0), NONE);
        due(20, "below(-1, 0, 0)", x.below(-1, 0, 0), NONE);
        due(20, "below(0, 96, 0)", x.below(0, 96, 0), NONE);
        due(20, "below(0, -1, 0)", x.below(0, -1, 0), NONE);
        due(20, "below(0, 0, -1)", x.below(0, 0, -1), NONE);
        due(20, "below(0, 0, 97)", x.below(0, 0, 97), NONE);
    }

    private static void promise21() {
        NineRiver x = new NineRiver();
        due(21, "sources(5, 5, 5)", x.sources(5, 5, 5), 32);
        due(21, "sources(24, 5, 5)", x.sources(24, 5, 5), 0);
        due(21, "sources(24, 95, 0)", x.sources(24, 95, 0), (1 << 24) - 1);
        due(21, "sources(24, 3, 0)", x.sources(24, 3, 0), 7 << 21);
        due(21, "sources(0, 3, 0)", x.sources(0, 3, 0), 0);
        x.terms(0, -2);
        due(21, "sources(0, 3, 1)", x.sources(0, 3, 1), 31);
        due(21, "sources(25, 3, 0)", x.sources(25, 3, 0), NONE);
        due(21, "sources(-1, 3, 0)", x.sources(-1, 3, 0), NONE);
        due(21, "sources(0, 3, 4)", x.sources(0, 3, 4), NONE);
        due(21, "sources(0, 3, -1)", x.sources(0, 3, -1), NONE);
        due(21, "sources(0, 96, 0)", x.sources(0, 96, 0), NONE);
        due(21, "sources(0, -1, -1)", x.sources(0, -1, -1), NONE);
    }

    private static void promise22and23() {
        NineRiver x = new NineRiver();
        for (int i = 0; i < 6; i++) {
            due(22, "boat", x.boat(i, i), i);
        }
        refused(22, x, "the seventh", x.boat(0, 0), -5);
        refused(22, x, "boat(24, 0)", x.boat(24, 0), -1);
        refused(22, x, "boat(-1, 0)", x.boat(-1, 0), -1);
        refused(22, x, "boat(0, 96)", x.boat(0, 96), -1);
        refused(22, x, "boat(0, -1)", x.boat(0, -1), -1);
        due(22, "count(4)", x.count(4), 6);
        due(23, "moor(0, 2, 4)", x.moor(0, 2, 4), 0);
        due(23, "sails(0, 2, 0)", x.sails(0, 2, 0), 2);
        due(23, "sails(0, 5, 0)", x.sails(0, 5, 0), 2);
        due(23, "sails(0, 6, 0)", x.sails(0, 6, 0), 3);
        due(23, "moor in place of others", x.moor(0, 0, 0), 0);
        due(23, "sails(0, 6, 0)", x.sails(0, 6, 0), 5);
        refused(23, x, "moor(6, 0, 0)", x.moor(6, 0, 0), -2);
        refused(23, x, "moor(-1, 0, 0)", x.moor(-1, 0, 0), -2);
        refused(23, x, "moor(0, 1, 0)", x.moor(0, 1, 0), -1);
        refused(23, x, "moor(0, -1, 0)", x.moor(0, -1, 0), -1);
        refused(23, x, "moor(0, 0, 96)", x.moor(0, 0, 96), -1);
        refused(23, x, "moor(9, 1, 0): -1 ahead of -2", x.moor(9, 1, 0), -1);
        due(23, "sails(0, 6, 0)", x.sails(0, 6, 0), 5);
    }

    private static void promise24() {
        NineRiver x = lawful("flows 3 if hour = 0; flows 0-2 if hour = 1; tolls cell * 2 + down; tolls 50 if cell = 23");
        x.boat(4, 0);
        x.boat(22, 0);
        x.boat(7, 5);
        due(24, "sails(0, 0, 0)", x.sails(0, 0, 0), 4);
        due(24, "sails(0, 0, 1)", x.sails(0, 0, 1), 0);
        due(24, "sails(0, 1, 0)", x.sails(0, 1, 0), 7);
        due(24, "sails(0, 1, 1)", x.sails(0, 1, 1), 9 + 11 + 13);
        due(24, "sails(0, 2, 0)", x.sails(0, 2, 0), 5);
        due(24, "sails(0, 2, 1)", x.sails(0, 2, 1), 33 + 14 + 12);
        due(24, "the last one into the sea, too", x.sails(1, 1, 1), 45 + 50);
        due(24, "sails(1, 9, 0)", x.sails(1, 9, 0), 24);
        due(24, "none in the sea", x.sails(1, 95, 1), 95);
        due(24, "sails(2, 5, 0)", x.sails(2, 5, 0), 7);
        due(24, "ahead of that", x.sails(2, 4, 0), NONE);
        due(24, "ahead of that", x.sails(2, 4, 1), NONE);
        due(24, "sails(3, 0, 0)", x.sails(3, 0, 0), NONE);
        due(24, "sails(-1, 0, 0)", x.sails(-1, 0, 0), NONE);
        due(24, "sails(0, 0, 2)", x.sails(0, 0, 2), NONE);
        due(24, "sails(0, 0, -1)", x.sails(0, 0, -1), NONE);
        due(24, "sails(0, -1, 0)", x.sails(0, -1, 0), NONE);
        due(24, "sails(0, 96, 0)", x.sails(0, 96, 0), NONE);
        x.moor(0, 0, 0);
        due(24, "no toll while moored", x.sails(0, 1, 1), 0);
        x.moor(0, 95, 95);
        x.gate(5, 0, 0);
        due(24, "tolled up to the gate", x.sails(0, 1, 1), 9);
    }

    private static void promise25() {
        NineRiver x = new NineRiver();
        x.boat(3, 0);
        x.boat(5, 2);
        x.boat(20, 0);
        x.boat(21, 0);
        x.boat(0, 95);
        due(25, "meet(0, 1, 0)", x.meet(0, 1, 0), 2);
        due(25, "meet(1, 0, 1)", x.meet(1, 0, 1), 5);
        due(25, "the sea aside", x.meet(2, 3, 0), NONE);
        due(25, "the sea aside", x.meet(2, 3, 1), NONE);
        due(25, "never", x.meet(0, 4, 0), NONE);
        due(25, "the same one", x.meet(1, 1, 0), NONE);
        due(25, "meet(0, 5, 0)", x.meet(0, 5, 0), NONE);
        due(25, "meet(-1, 0, 0)", x.meet(-1, 0, 0), NONE);
        due(25, "meet(0, 1, 2)", x.meet(0, 1, 2), NONE);
        due(25, "meet(0, 1, -1)", x.meet(0, 1, -1), NONE);
        x.moor(3, 0, 0);
        due(25, "moored till met", x.meet(2, 3, 0), 1);
        due(25, "moored till met", x.meet(2, 3, 1), 21);
        NineRiver z = new NineRiver();
        z.boat(0, 0);
        due(25, "no such boat", z.meet(0, 1, 0), NONE);
        due(25, "no such boat", z.meet(1, 0, 0), NONE);
        NineRiver y = lawful("flows 0; flows 1 if cell = 4 and hour = 23 and day = 3");
        y.boat(4, 0);
        y.boat(5, 95);
        due(25, "to hour 96", y.meet(0, 1, 0), 96);
        due(25, "to hour 96", y.meet(0, 1, 1), 5);
    }

    private static void promise26and27() {
        NineRiver x = lawful("bars if cell = 7");
        refused(27, x, "undo() of none", x.undo(), -3);
        for (int i = 0; i < 16; i++) {
            due(26, "pour", x.pour(i, 0, 3, 99), i + (i > 7 ? -1 : 0) + (i == 7 ? -10 : 0));
        }
        due(26, "count(5)", x.count(5), 15);
        due(26, "pour(23, 95, 0, 1)", x.pour(23, 95, 0, 1), 15);
        refused(26, x, "the seventeenth", x.pour(0, 0, 0, 1), -5);
        refused(26, x, "barred: -3 ahead of -5", x.pour(7, 0, 0, 1), -3);
        refused(26, x, "pour(-1, ..)", x.pour(-1, 0, 0, 1), -1);
        refused(26, x, "pour(24, ..)", x.pour(24, 0, 0, 1), -1);
        refused(26, x, "pour(7, 96, ..): -1 ahead of -3", x.pour(7, 96, 0, 1), -1);
        refused(26, x, "pour(7, -1, ..)", x.pour(7, -1, 0, 1), -1);
        refused(26, x, "pour colour 4", x.pour(0, 0, 4, 1), -1);
        refused(26, x, "pour colour -1", x.pour(0, 0, -1, 1), -1);
        refused(26, x, "pour amount 0", x.pour(0, 0, 0, 0), -1);
        refused(26, x, "pour amount 100", x.pour(0, 0, 0, 100), -1);
        due(27, "undo()", x.undo(), 15);
        due(27, "dye(23, 95, 0)", x.dye(23, 95, 0), 0);
        due(27, "dye(15, 0, 3)", x.dye(15, 0, 3), 99);
        due(27, "undo()", x.undo(), 14);
        due(27, "dye(15, 0, 3)", x.dye(15, 0, 3), 0);
        due(27, "dye(14, 0, 3)", x.dye(14, 0, 3), 99);
        x.force(NONE);
        due(26, "no longer barred", x.pour(7, 0, 3, 1), 14);
    }

    private static void promise28() {
        NineRiver x = new NineRiver();
        x.pour(2, 0, 1, 50);
        x.pour(4, 2, 1, 7);
        x.pour(4, 2, 2, 9);
        due(28, "dye(2, 0, 1)", x.dye(2, 0, 1), 50);
        due(28, "dye(4, 2, 1)", x.dye(4, 2, 1), 57);
        due(28, "dye(4, 1, 1) ahead of it", x.dye(4, 1, 1), 0);
        due(28, "dye(5, 3, 2)", x.dye(5, 3, 2), 9);
        due(28, "dye(24, 96, 1)", x.dye(24, 96, 1), 57);
        due(28, "dye(24, 21, 1)", x.dye(24, 21, 1), 0);
        due(28, "dye(24, 22, 1)", x.dye(24, 22, 1), 57);
        due(28, "dye(0, 0, 0)", x.dye(0, 0, 0), 0);
        due(28, "dye(25, 0, 0)", x.dye(25, 0, 0), NONE);
        due(28, "dye(-1, 0, 0)", x.dye(-1, 0, 0), NONE);
        due(28, "dye(0, 97, 0)", x.dye(0, 97, 0), NONE);
        due(28, "dye(0, -1, 0)", x.dye(0, -1, 0), NONE);
        due(28, "dye(0, 0, 4)", x.dye(0, 0, 4), NONE);
        due(28, "dye(0, 0, -1)", x.dye(0, 0, -1), NONE);
    }

    private static void promise29() {
        NineRiver x = new NineRiver();
        x.pour(2, 0, 1, 50);
        x.pour(2, 30, 1, 50);
        x.pour(23, 95, 3, 1);
        due(29, "comes(6, 1, 0)", x.comes(6, 1, 0), 4);
        due(29, "comes(6, 1, 4)", x.comes(6, 1, 4), 4);
        due(29, "comes(6, 1, 5)", x.comes(6, 1, 5), 34);
        due(29, "comes(6, 1, 35)", x.comes(6, 1, 35), NONE);
        due(29, "comes(1, 1, 0)", x.comes(1, 1, 0), NONE);
        due(29, "comes(6, 0, 0)", x.comes(6, 0, 0), NONE);
        due(29, "comes(24, 1, 0)", x.comes(24, 1, 0), 22);
        due(29, "comes(24, 1, 90)", x.comes(24, 1, 90), 90);
        due(29, "comes(24, 3, 0)", x.comes(24, 3, 0), 96);
        due(29, "comes(24, 3, 96)", x.comes(24, 3, 96), 96);
        due(29, "comes(23, 3, 96)", x.comes(23, 3, 96), NONE);
        due(29, "comes(25, 0, 0)", x.comes(25, 1, 0), NONE);
        due(29, "comes(-1, 0, 0)", x.comes(-1, 1, 0), NONE);
        due(29, "comes(24, 4, 0)", x.comes(24, 4, 0), NONE);
        due(29, "comes(24, -1, 0)", x.comes(24, -1, 0), NONE);
        due(29, "comes(24, 1, 97)", x.comes(24, 1, 97), NONE);
        due(29, "comes(24, 1, -1)", x.comes(24, 1, -1), NONE);
        NineRiver y = new NineRiver();
        y.pour(4, 9, 0, 1);
        y.pour(5, 3, 0, 1);
        due(29, "the first of two pours", y.comes(7, 0, 0), 5);
    }

    private static void promise30() {
        NineRiver x = new NineRiver();
        x.pour(9, 0, 1, 5);
        x.pour(4, 0, 1, 3);
        x.pour(3, 0, 1, 3);
        x.pour(3, 0, 1, 2);
        x.pour(20, 0, 0, 99);
        due(30, "the lowest of alike ones", x.most(0, 1, 0), 3);
        due(30, "how many have some", x.most(0, 1, 1), 3);
        due(30, "an hour later", x.most(1, 1, 0), 4);
        due(30, "none", x.most(0, 2, 0), NONE);
        due(30, "none", x.most(0, 2, 1), 0);
        due(30, "the sea aside", x.most(4, 0, 0), NONE);
        due(30, "the sea aside", x.most(4, 0, 1), 0);
        x.undo();
        x.undo();
        due(30, "the most", x.most(0, 1, 0), 9);
        x.pour(0, 50, 3, 1);
        due(30, "the least amount at cell 0", x.most(50, 3, 0), 0);
        due(30, "the least amount at cell 0", x.most(50, 3, 1), 1);
        due(30, "most(96, 1, 0)", x.most(96, 1, 0), NONE);
        due(30, "most(96, 1, 1)", x.most(96, 1, 1), NONE);
        due(30, "most(-1, 1, 1)", x.most(-1, 1, 1), NONE);
        due(30, "most(0, 4, 1)", x.most(0, 4, 1), NONE);
        due(30, "most(0, -1, 1)", x.most(0, -1, 1), NONE);
        due(30, "most(0, 1, 2)", x.most(0, 1, 2), NONE);
        due(30, "most(0, 1, -1)", x.most(0, 1, -1), NONE);
    }

    private static void least(NineRiver x, int[] numbers, int... want) {
        for (int what = 0; what < 4; what++) {
            due(31, "least(" + numbers[0] + ", " + numbers[1] + ", " + numbers[2] + ", " + numbers[3] + ", " + what + ")",
                x.least(numbers[0], numbers[1], numbers[2], numbers[3], what), want[what]);
        }
    }

    private static void promise31() {
        NineRiver x = new NineRiver();
        least(x, new int[] {5, 0, 96, 0}, 1, 5, 0, 0);
        least(x, new int[] {5, 3, 3, 0}, 1, 2, 0, 3);
        least(x, new int[] {5, 3, 9, 0}, 1, 2, 0, 3);
        least(x, new int[] {24, 0, 96, 0}, 1, 23, 0, 1);
        least(x, new int[] {24, 96, 96, 95}, 1, 23, 95, 96);
        least(x, new int[] {24, 96, 96, 0}, 1, 0, 0, 96);
        least(x, new int[] {5, 0, 3, 4}, NONE, NONE, NONE, NONE);
        least(x, new int[] {5, 4, 3, 0}, NONE, NONE, NONE, NONE);
        least(x, new int[] {24, 0, 0, 0}, NONE, NONE, NONE, NONE);
        least(x, new int[] {25, 0, 96, 0}, NONE, NONE, NONE, NONE);
        least(x, new int[] {-1, 0, 96, 0}, NONE, NONE, NONE, NONE);
        least(x, new int[] {5, -1, 96, 0}, NONE, NONE, NONE, NONE);
        least(x, new int[] {5, 0, 97, 0}, NONE, NONE, NONE, NONE);
        least(x, new int[] {5, 0, 96, -1}, NONE, NONE, NONE, NONE);
        least(x, new int[] {5, 0, 96, 96}, NONE, NONE, NONE, NONE);
        due(31, "what 4", x.least(5, 0, 96, 0, 4), NONE);
        due(31, "what -1", x.least(5, 0, 96, 0, -1), NONE);
        NineRiver y = lawful("costs 10 - cell; costs 2 if cell = 3; bars if cell > 6 and cell < 10 or hour < 2");
        least(y, new int[] {9, 0, 96, 0}, 2, 3, 2, 8);
        least(y, new int[] {9, 0, 7, 0}, 4, 6, 2, 5);
        least(y, new int[] {9, 0, 3, 0}, NONE, NONE, NONE, NONE);
        NineRiver z = lawful("flows 0; flows 1 if hour = 5 and cell = 3; flows 0-1 if hour = 5 and cell = 5");
        least(z, new int[] {4, 6, 6, 0}, 1, 3, 0, 6);
        NineRiver w = lawful("flows 0; costs cell");
        least(w, new int[] {4, 7, 9, 0}, 4, 4, 0, 7);
        NineRiver u = lawful("costs 0; bars if cell > 3");
        least(u, new int[] {5, 0, 96, 0}, 0, 3, 0, 2);
        least(u, new int[] {5, 0, 1, 0}, NONE, NONE, NONE, NONE);
        NineRiver v = lawful("flows 0; costs 0");
        least(v, new int[] {4, 7, 9, 8}, 0, 4, 8, 8);
    }

    private static void promise32to34() {
        NineRiver x = new NineRiver();
        x.pour(2, 0, 1, 5);
        x.pour(23, 94, 1, 5);
        due(32, "sight(4, 2, 1, 1)", x.sight(4, 2, 1, 1), 1);
        due(32, "sight(4, 2, 1, 0)", x.sight(4, 2, 1, 0), 2);
        due(32, "sight(4, 2, 0, 0)", x.sight(4, 2, 0, 0), 3);
        due(32, "sight(4, 3, 1, 1)", x.sight(4, 3, 1, 1), 4);
        due(32, "sight(23, 96, 1, 0)", x.sight(23, 96, 1, 0), 5);
        int[] so = {1, 0, 1, 0, 1};
        for (int i = 0; i < 5; i++) {
            due(34, "so(" + i + ")", x.so(i), so[i]);
        }
        due(34, "so(5)", x.so(5), NONE);
        due(34, "so(-1)", x.so(-1), NONE);
        x.undo();
        x.undo();
        due(34, "so(0) behind undo", x.so(0), 0);
        x.pour(2, 0, 1, 1);
        due(34, "so(0) by the least amount", x.so(0), 1);
        due(35, "suspects(1, NONE): seen and not", x.suspects(1, NONE), 0);
        for (int i = 6; i <= 10; i++) {
            due(32, "sight", x.sight(0, 0, 3, 0), i);
        }
        refused(32, x, "the eleventh", x.sight(0, 0, 0, 0), -5);
        refused(32, x, "sight(24, ..)", x.sight(24, 0, 0, 0), -1);
        refused(32, x, "sight(-1, ..)", x.sight(-1, 0, 0, 0), -1);
        refused(32, x, "sight hour 97", x.sight(0, 97, 0, 0), -1);
        refused(32, x, "sight hour -1", x.sight(0, -1, 0, 0), -1);
        refused(32, x, "sight colour 4", x.sight(0, 0, 4, 0), -1);
        refused(32, x, "sight colour -1", x.sight(0, 0, -1, 0), -1);
        refused(32, x, "sight is 2", x.sight(0, 0, 0, 2), -1);
        refused(32, x, "sight is -1", x.sight(0, 0, 0, -1), -1);
        due(32, "count(6)", x.count(6), 10);
        due(33, "forget()", x.forget(), 10);
        due(33, "forget() again", x.forget(), 0);
        due(33, "count(6)", x.count(6), 0);
        due(33, "so(0)", x.so(0), NONE);
        due(33, "suspects behind it", x.suspects(1, NONE), 2304);
        due(53, "forget() tells no status", x.status(), -1);
    }

    private static void promise35and36() {
        NineRiver x = lawful("flows 1; bars");
        due(36, "pairs without sights", x.pairs(2), 2304 * 2303 / 2);
        x.sight(4, 2, 2, 1);
        due(35, "suspects(2, NONE)", x.suspects(2, NONE), 3);
        due(35, "suspects(2, 0)", x.suspects(2, 0), 2);
        due(35, "suspects(2, 1)", x.suspects(2, 1), 27);
        due(35, "suspects(2, 2)", x.suspects(2, 2), 52);
        due(35, "suspects(2, 3)", x.suspects(2, 3), NONE);
        due(35, "suspects(2, -2)", x.suspects(2, -2), NONE);
        due(35, "suspects(4, NONE)", x.suspects(4, NONE), NONE);
        due(35, "suspects(-1, NONE)", x.suspects(-1, NONE), NONE);
        due(35, "another colour", x.suspects(1, NONE), 2304);
        due(35, "another colour, the last", x.suspects(1, 2303), 2303);
        due(35, "another colour, behind the last", x.suspects(1, 2304), NONE);
        due(36, "pairs(2)", x.pairs(2), 3 * 2301 + 3);
        x.sight(9, 3, 2, 1);
        due(35, "two places at once", x.suspects(2, NONE), 0);
        due(36, "one for each", x.pairs(2), 3 * 4);
        x.sight(3, 1, 2, 0);
        due(36, "the later one of the first alone", x.pairs(2), 4);
        x.sight(8, 2, 2, 0);
        due(36, "the later ones of both alone", x.pairs(2), 1);
        x.sight(4, 2, 2, 0);
        due(36, "seen and not", x.pairs(2), 0);
        due(36, "pairs(4)", x.pairs(4), NONE);
        due(36, "pairs(-1)", x.pairs(-1), NONE);
        NineRiver y = new NineRiver();
        y.sight(23, 96, 0, 1);
        due(35, "to hour 96", y.suspects(0, NONE), 23);
        due(35, "to hour 96", y.suspects(0, 22), 95 * 24 + 22);
        y.sight(23, 96, 0, 0);
        due(35, "seen and not", y.suspects(0, NONE), 0);
        NineRiver w = new NineRiver();
        w.sight(2, 0, 0, 0);
        w.sight(0, 0, 1, 1);
        w.sight(4, 2, 0, 1);
        due(35, "one not seen ahead of one seen", w.suspects(0, NONE), 2);
        due(35, "one not seen ahead of one seen", w.suspects(0, 0), 27);
        due(36, "one not seen ahead of one seen", w.pairs(0), 2 * 2301 + 1);
        due(35, "of one colour alone", w.suspects(1, NONE), 1);
        NineRiver z = new NineRiver();
        z.terms(0, 0);
        z.sight(5, 3, 0, 1);
        z.sight(6, 2, 0, 1);
        z.sight(7, 0, 0, 1);
        due(36, "three places by two", z.pairs(0), 0);
        z.forget();
        z.sight(5, 3, 0, 1);
        z.sight(5, 9, 0, 1);
        z.sight(6, 2, 0, 1);
        due(36, "of all at 5 until 3, and at 6 until 2", z.pairs(0), 4 * 3);
        z.terms(0, 1);
        due(36, "as it flows now", z.pairs(0), 0);
    }

    private static void laundry(NineRiver x, int... want) {
        for (int what = 0; what < want.length; what++) {
            due(39, "laundry(" + what + ")", x.laundry(what), want[what]);
        }
    }

    private static void promise37to39() {
        NineRiver x = new NineRiver();
        laundry(x, 0, 1, NONE, NONE, NONE, NONE, NONE, NONE, NONE, NONE);
        due(39, "laundry(-1)", x.laundry(-1), NONE);
        due(37, "job(4, 2, 0)", x.job(4, 2, 0), 1);
        due(37, "job(4, 1, 0)", x.job(4, 1, 0), 2);
        laundry(x, 3, 2, 0, 1, NONE, NONE, NONE, NONE, 0, 2, NONE);
        x.pour(2, 0, 1, 1);
        laundry(x, 4, 1, 0, 1, NONE, NONE, NONE, NONE, 0, 3, NONE);
        due(38, "hang()", x.hang(), 2);
        due(38, "hang() again", x.hang(), 0);
        due(38, "count(7)", x.count(7), 0);
        laundry(x, 0, 1, NONE);
        x.job(0, 6, 90);
        laundry(x, 96, 1, 0, NONE, NONE, NONE, NONE, NONE, 90);
        x.job(0, 1, 0);
        laundry(x, 96, 1, 1, 0, NONE, NONE, NONE, NONE, 0, 90);
        x.job(0, 1, 95);
        laundry(x, NONE, 0, NONE, NONE, NONE, NONE, NONE, NONE, NONE, NONE, NONE, NONE, NONE, NONE, NONE);
        x.hang();
        for (int i = 1; i <= 6; i++) {
            due(37, "job", x.job(20, 1, 0), i);
        }
        laundry(x, 6, 720, 0, 1, 2, 3, 4, 5, 0, 1, 2, 3, 4, 5, NONE);
        refused(37, x, "the seventh", x.job(0, 1, 0), -5);
        refused(37, x, "job(24, ..)", x.job(24, 1, 0), -1);
        refused(37, x, "job(-1, ..)", x.job(-1, 1, 0), -1);
        refused(37, x, "job long 0", x.job(0, 0, 0), -1);
        refused(37, x, "job long 7", x.job(0, 7, 0), -1);
        refused(37, x, "job hour 96", x.job(0, 1, 96), -1);
        refused(37, x, "job hour -1", x.job(0, 1, -1), -1);
        due(37, "count(7)", x.count(7), 6);
        NineRiver z = new NineRiver();
        z.job(0, 2, 95);
        laundry(z, NONE, 0, NONE);
        z.hang();
        z.job(0, 1, 95);
        laundry(z, 96, 1, 0, NONE, NONE, NONE, NONE, NONE, 95);
        NineRiver y = new NineRiver();
        y.terms(0, 0);
        y.pour(3, 10, 2, 1);
        y.job(3, 5, 6);
        laundry(y, NONE, 0, NONE);
        y.undo();
        laundry(y, 11, 1, 0);
        y.pour(3, 11, 0, 1);
        laundry(y, 11, 1, 0);
        y.job(3, 1, 0);
        y.job(7, 2, 3);
        laundry(y, 11, 2, 1, 2, 0, NONE, NONE, NONE, 0, 3, 6);
    }

    private static void promise40() {
        NineRiver x = new NineRiver();
        due(40, "no way back", x.lovers(3, 5, 0, 0), NONE);
        due(40, "no way back", x.lovers(3, 5, 0, 1), NONE);
        due(40, "both at one cell", x.lovers(3, 3, 5, 0), 5);
        due(40, "both at one cell", x.lovers(3, 3, 5, 1), 5);
        due(40, "both at one cell", x.lovers(3, 3, 96, 0), 96);
        x.pump(0, 0, 23, 12, 0, 2);
        due(40, "down till 12, up then", x.lovers(3, 5, 0, 0), 14);
        due(40, "the latest t", x.lovers(3, 5, 0, 1), 10);
        due(40, "up first", x.lovers(5, 3, 0, 0), 26);
        due(40, "the latest t", x.lovers(5, 3, 0, 1), 22);
        due(40, "from hour 11 on", x.lovers(3, 5, 11, 0), 38);
        due(40, "from hour 11 on", x.lovers(3, 5, 11, 1), 34);
        due(40, "from hour 82 on", x.lovers(3, 5, 82, 0), 86);
        due(40, "from hour 83 on", x.lovers(3, 5, 83, 0), NONE);
        due(40, "from hour 96 on", x.lovers(3, 5, 96, 0), NONE);
        due(40, "the last hours", x.lovers(15, 14, 83, 0), NONE);
        due(40, "lovers(24, ..)", x.lovers(24, 5, 0, 0), NONE);
        due(40, "lovers(-1, ..)", x.lovers(-1, 5, 0, 0), NONE);
        due(40, "lovers(5, 24, ..)", x.lovers(5, 24, 0, 0), NONE);
        due(40, "lovers(24, 24, ..)", x.lovers(24, 24, 0, 0), NONE);
        due(40, "hour 97", x.lovers(3, 3, 97, 0), NONE);
        due(40, "hour -1", x.lovers(3, 3, -1, 0), NONE);
        due(40, "what 2", x.lovers(3, 3, 0, 2), NONE);
        due(40, "what -1", x.lovers(3, 3, 0, -1), NONE);
        NineRiver y = lawful("bars if cell = 5 and hour = 12; bars if cell = 3 and hour > 8");
        y.pump(0, 0, 23, 12, 0, 2);
        due(40, "barred", y.lovers(3, 5, 0, 0), 15);
        due(40, "barred", y.lovers(3, 5, 0, 1), 8);
        NineRiver z = lawful("flows 0; flows 1 if cell = 0 and hour = 9; flows 0-1 if cell = 1 and hour = 23");
        due(40, "the answer at 96", z.lovers(0, 1, 73, 0), 96);
        due(40, "the answer at 96", z.lovers(0, 1, 73, 1), 81);
        NineRiver w = lawful("flows 0; flows 1 if cell = 0 and hour + day = 0; flows 0-1 if cell = 1 and hour = 1");
        due(40, "thrown in hour 0 alone", w.lovers(0, 1, 0, 0), 2);
        due(40, "thrown in hour 0 alone", w.lovers(0, 1, 0, 1), 0);
        due(40, "thrown in hour 0 alone", w.lovers(0, 1, 1, 0), NONE);
    }

    private static void promise41() {
        NineRiver x = new NineRiver();
        due(41, "to the sea", x.duck(0, 0, 0), 2);
        due(41, "to the sea", x.duck(0, 0, 1), 1);
        x.terms(0, 0);
        due(41, "stays", x.duck(7, 3, 0), 1);
        due(41, "stays", x.duck(7, 3, 1), 1);
        due(41, "duck(24, ..)", x.duck(24, 0, 0), NONE);
        due(41, "duck(-1, ..)", x.duck(-1, 0, 0), NONE);
        due(41, "day 4", x.duck(0, 4, 0), NONE);
        due(41, "day -1", x.duck(0, -1, 0), NONE);
        due(41, "what 2", x.duck(0, 0, 2), NONE);
        due(41, "what -1", x.duck(0, 0, -1), NONE);
        // On day 2 cells 5 to 9 go round by one a day, 0 to 4 down by one; on others nothing moves.
        NineRiver y = lawful("flows 0; flows 1 if day = 2 and hour = 0 and cell < 9; flows 0-4 if day = 2 and hour = 0 and cell = 9");
        due(41, "comes into a round", y.duck(2, 2, 0), 8);
        due(41, "the round", y.duck(2, 2, 1), 5);
        due(41, "in the round", y.duck(7, 2, 0), 5);
        due(41, "the round", y.duck(7, 2, 1), 5);
        due(41, "another day", y.duck(2, 1, 0), 1);
        NineRiver z = lawful("flows 1 if hour = 0; flows 0 if hour > 0");
        due(41, "the longest", z.duck(0, 0, 0), 25);
        due(41, "the longest", z.duck(0, 0, 1), 1);
    }

    private static void promise42() {
        NineRiver x = new NineRiver();
        due(42, "no pumps", x.matters(10, 8, 13, NONE), 0);
        due(42, "no pumps", x.matters(10, 8, 13, 0), NONE);
        x.pump(0, 0, 23, 9, 12, 3);
        due(42, "matters(10, 8, 13, NONE)", x.matters(10, 8, 13, NONE), 3);
        due(42, "matters(10, 8, 13, 0)", x.matters(10, 8, 13, 0), 9);
        due(42, "matters(10, 8, 13, 2)", x.matters(10, 8, 13, 2), 11);
        due(42, "matters(10, 8, 13, 3)", x.matters(10, 8, 13, 3), NONE);
        due(42, "matters(10, 8, 13, -2)", x.matters(10, 8, 13, -2), NONE);
        x.strike(10, 10, 1);
        due(42, "one that is a strike", x.matters(10, 8, 13, 1), 10);
        due(42, "till, not in it", x.matters(10, 8, 11, NONE), 2);
        due(42, "at once", x.matters(10, 9, 9, NONE), 0);
        due(42, "matters(24, ..)", x.matters(24, 8, 13, NONE), NONE);
        due(42, "matters(-1, ..)", x.matters(-1, 8, 13, NONE), NONE);
        due(42, "till ahead of hour", x.matters(10, 8, 7, NONE), NONE);
        due(42, "hour -1", x.matters(10, -1, 7, NONE), NONE);
        due(42, "till 96", x.matters(10, 0, 96, NONE), NONE);
        due(42, "strikes are as they were", x.count(1), 1);
        // Up to 0 either way: the strike is lost again.
        NineRiver y = new NineRiver();
        y.pump(0, 0, 23, 0, 0, 3);
        due(42, "it ends in the same cell", y.matters(2, 0, 9, NONE), 1);
        due(42, "the last hour alone", y.matters(2, 0, 9, 0), 8);
        NineRiver w = lawful("flows 1; flows 2 if strike = 0");
        w.strike(5, 6, 1);
        due(42, "without one that there is", w.matters(0, 5, 7, NONE), 2);
        due(42, "strike is 0 without one", w.matters(0, 5, 6, 0), 5);
        NineRiver z = lawful("flows 1; flows 2 if strike = 1");
        due(42, "by a law", z.matters(0, 4, 9, NONE), 5);
        due(42, "by a law", z.matters(0, 4, 9, 4), 8);
        due(42, "by a law, from hour 4 on", z.matters(0, 4, 9, 0), 4);
    }

    private static void promise43to45() {
        NineRiver x = new NineRiver();
        due(45, "granted() without", x.granted(), 0);
        due(43, "wish(0, 0, 5, 5)", x.wish(0, 0, 5, 5), 1);
        due(43, "wish(0, 0, 6, 5)", x.wish(0, 0, 6, 5), 2);
        due(43, "wish(0, 0, 24, 95)", x.wish(0, 0, 24, 95), 3);
        due(43, "wish(9, 7, 9, 7)", x.wish(9, 7, 9, 7), 4);
        due(45, "granted()", x.granted(), 13);
        x.terms(0, 0);
        due(45, "granted()", x.granted(), 8);
        due(43, "wish(1, 0, 1, 0)", x.wish(1, 0, 1, 0), 5);
        due(43, "wish(1, 0, 1, 95)", x.wish(1, 0, 1, 95), 6);
        due(45, "granted()", x.granted(), 56);
        refused(43, x, "the seventh", x.wish(1, 0, 1, 0), -5);
        refused(43, x, "at ahead of hour", x.wish(1, 3, 1, 2), -1);
        refused(43, x, "wish(24, ..)", x.wish(24, 0, 1, 0), -1);
        refused(43, x, "wish(-1, ..)", x.wish(-1, 0, 1, 0), -1);
        refused(43, x, "wish to 25", x.wish(1, 0, 25, 0), -1);
        refused(43, x, "wish to -1", x.wish(1, 0, -1, 0), -1);
        refused(43, x, "wish hour -1", x.wish(1, -1, 1, 0), -1);
        refused(43, x, "wish hour 96", x.wish(1, 96, 1, 96), -1);
        refused(43, x, "wish at 96", x.wish(1, 0, 1, 96), -1);
        due(43, "count(8)", x.count(8), 6);
        due(44, "drop()", x.drop(), 6);
        due(44, "drop() again", x.drop(), 0);
        due(44, "granted()", x.granted(), 0);
        due(44, "count(8)", x.count(8), 0);
        due(53, "drop() tells no status", x.status(), -1);
    }

    private static void best(NineRiver x, int pump, int... want) {
        for (int what = 0; what < 3; what++) {
            due(46, "best(" + pump + ", " + what + ")", x.best(pump, what), want[what]);
        }
    }

    private static void promise46and47() {
        NineRiver x = new NineRiver();
        best(x, 0, 0, 0, 1);
        x.pump(1, 0, 23, 3, 4, 3);
        x.wish(10, 9, 4, 12);
        best(x, 0, 0, 0, 1);
        best(x, 1, 1, 9, 3);
        x.wish(10, 0, 3, 2);
        best(x, 1, 1, 9, 3);
        due(46, "best(2, 0)", x.best(2, 0), NONE);
        due(46, "best(-1, 0)", x.best(-1, 0), NONE);
        due(46, "best(0, 3)", x.best(0, 3), NONE);
        due(46, "best(0, -1)", x.best(0, -1), NONE);
        due(46, "best changes nothing", x.of(1, 2), 3);
        due(47, "set(1)", x.set(1), 1);
        due(47, "of(1, 0)", x.of(1, 0), 0);
        due(47, "of(1, 1)", x.of(1, 1), 23);
        due(47, "of(1, 2)", x.of(1, 2), 9);
        due(47, "of(1, 3)", x.of(1, 3), 12);
        due(47, "of(1, 4)", x.of(1, 4), 3);
        due(47, "granted()", x.granted(), 1);
        due(47, "flow(0, 9)", x.flow(0, 9), -2);
        due(47, "flow(0, 12)", x.flow(0, 12), 1);
        refused(47, x, "set(2)", x.set(2), -2);
        refused(47, x, "set(-1)", x.set(-1), -2);
        x.strike(10, 10, 1);
        best(x, 1, 0, 0, 1);
        NineRiver y = new NineRiver();
        y.pump(0, 0, 23, 0, 0, 1);
        y.wish(5, 22, 5, 26);
        y.wish(5, 46, 5, 50);
        y.wish(5, 0, 9, 4);
        best(y, 0, 2, 22, 4);
        due(47, "over midnight", y.set(0), 2);
        due(47, "of(0, 3)", y.of(0, 3), 2);
        y.drop();
        due(47, "without wishes", y.set(0), 0);
        due(47, "of(0, 2)", y.of(0, 2), 0);
        due(47, "of(0, 3)", y.of(0, 3), 1);
        NineRiver z = new NineRiver();
        z.terms(0, 2);
        z.pump(0, 0, 23, 9, 9, 2);
        z.pump(1, 0, 23, 0, 4, 2);
        z.wish(10, 0, 10, 6);
        best(z, 0, 1, 0, 2);
        best(z, 1, 1, 6, 1);
        z.pump(0, 0, 9, 9, 9, 2);
        best(z, 1, 1, 0, 6);
        // Cell 6 is not the pump's, 5 is: up by 1 from there.
        NineRiver w = new NineRiver();
        w.terms(0, 0);
        w.pump(0, 3, 5, 7, 7, 1);
        w.wish(6, 0, 5, 3);
        best(w, 0, 0, 0, 1);
        w.drop();
        w.wish(5, 0, 4, 3);
        best(w, 0, 1, 0, 1);
        w.wish(3, 0, 2, 3);
        best(w, 0, 2, 0, 1);
        w.wish(2, 0, 1, 3);
        best(w, 0, 2, 0, 1);
        due(46, "flow(4, 1) ahead of set", w.flow(4, 1), -1);
        due(47, "set(0)", w.set(0), 2);
        due(47, "flow(4, 1) behind set", w.flow(4, 1), 0);
        NineRiver u = new NineRiver();
        u.pump(0, 0, 23, 0, 0, 1);
        u.wish(5, 0, 5, 6);
        best(u, 0, 1, 0, 6);
        u.drop();
        u.wish(5, 0, 5, 7);
        best(u, 0, 0, 0, 1);
        u.wish(5, 23, 6, 25);
        best(u, 0, 1, 0, 1);
        u.wish(5, 22, 6, 24);
        best(u, 0, 2, 23, 1);
        NineRiver v = lawful("flows mills");
        v.wish(0, 0, 1, 1);
        best(v, 0, 0, 0, 1);
        v.mill(0);
        best(v, 0, 1, 0, 1);
        v.drop();
        best(v, 0, 0, 0, 1);
    }

    private static void promise48and49() {
        NineRiver x = new NineRiver();
        x.pump(0, 0, 23, 0, 0, 1);
        x.strike(0, 9, 1);
        due(49, "drawn(0) ahead of any", x.drawn(0), NONE);
        due(48, "week(0, 100)", x.week(0, 100), 96);
        due(49, "drawn(0)", x.drawn(0), 24);
        due(48, "week(1000000, 0)", x.week(1000000, 0), 0);
        due(49, "drawn(0)", x.drawn(0), 0);
        due(49, "drawn(23)", x.drawn(23), 23);
        due(49, "drawn(24)", x.drawn(24), NONE);
        due(49, "drawn(-1)", x.drawn(-1), NONE);
        refused(48, x, "week(-1, 0)", x.week(-1, 0), -1);
        refused(48, x, "week(1000001, 0)", x.week(1000001, 0), -1);
        refused(48, x, "week(0, 101)", x.week(0, 101), -1);
        refused(48, x, "week(0, -1)", x.week(0, -1), -1);
        due(49, "the latest that was not refused", x.drawn(5), 5);
        due(48, "on paper", x.count(1), 10);
        // With one cell down a strike what floats from 0 is where the strikes are counted.
        long s = 7;
        int strikes = 0;
        for (int hour = 0; hour < 96; hour++) {
            s = (s * 1103 + 12345) % 1000003;
            strikes += s % 100 < 15 ? 1 : 0;
        }
        due(48, "week(7, 15)", x.week(7, 15), strikes);
        due(49, "drawn(0)", x.drawn(0), Math.min(24, strikes));
        due(49, "drawn(3)", x.drawn(3), Math.min(24, 3 + strikes));
        x.terms(0, 3);
        due(49, "drawn(0) is kept as it was", x.drawn(0), Math.min(24, strikes));
        NineRiver y = lawful("flows 0; flows 1 if strike = 1 and day = 0 and hour < 1");
        // The first draw of seed 0 is 45.
        due(48, "week(0, 45)", y.week(0, 45) >= 0 ? 0 : 1, 0);
        due(49, "a draw of 45 is not below 45", y.drawn(0), 0);
        due(48, "week(0, 46)", y.week(0, 46) >= 0 ? 0 : 1, 0);
        due(49, "a draw of 45 is below 46", y.drawn(0), 1);
    }

    private static void promise50and51() {
        NineRiver x = new NineRiver();
        refused(50, x, "image(-1)", x.image(-1), -1);
        refused(50, x, "image(2)", x.image(2), -1);
        refused(51, x, "back(-1)", x.back(-1), -1);
        refused(51, x, "back(2)", x.back(2), -1);
        refused(51, x, "back(1)", x.back(1), -2);
        due(50, "image(0) of a new one", x.image(0), 0);
        fill(x);
        due(50, "image(1)", x.image(1), 0);
        due(51, "back(0)", x.back(0), 0);
        for (int what = 0; what <= 8; what++) {
            due(51, "count(" + what + ") as new", x.count(what), 0);
        }
        due(51, "count(15) as new", x.count(15), NONE);
        due(51, "flow as new", x.flow(0, 0), 1);
        due(51, "of(1, 4) as new", x.of(1, 4), 0);
        due(51, "terms(1, 0) as new", x.terms(1, 0), 0);
        due(51, "images do not keep the tape", x.count(9), 20);
        due(51, "images do not keep fault", x.fault(), 6);
        due(51, "images do not keep the week", x.drawn(0) == NONE ? 0 : 1, 1);
        due(51, "images do not keep refusals", x.count(10), 4);
        due(51, "back(1)", x.back(1), 0);
        full(x);
        x.pour(3, 3, 3, 3);
        x.terms(0, 0);
        x.moor(0, 5, 6);
        x.gate(9, 9, 9);
        x.open(0);
        x.force(NONE);
        due(51, "images stay: back(1)", x.back(1), 0);
        full(x);
        due(51, "images stay: back(0)", x.back(0), 0);
        due(51, "count(0)", x.count(0), 0);
        write(x, "flows 4");
        due(51, "another law", x.law(), 0);
        x.force(0);
        due(51, "flow by it", x.flow(0, 0), 4);
        due(51, "back(1)", x.back(1), 0);
        full(x);
        due(51, "back(0)", x.back(0), 0);
        due(50, "image(1) anew", x.image(1), 0);
        x.mill(3);
        due(51, "back(1)", x.back(1), 0);
        due(51, "count(3)", x.count(3), 0);
        for (int i = 0; i < 16; i++) {
            x.gate(0, 0, 0);
            x.mill(0);
            x.boat(0, 0);
            x.pour(0, 0, 0, 1);
            x.sight(0, 0, 0, 0);
            x.job(0, 1, 0);
            x.wish(0, 0, 0, 0);
        }
        x.image(1);
        x.back(0);
        x.back(1);
        int[] most = {8, 6, 6, 16, 10, 6, 6};
        for (int i = 0; i < most.length; i++) {
            due(51, "count(" + (2 + i) + ") of all there is room for", x.count(2 + i), most[i]);
        }
    }

    private static void fill(NineRiver x) {
        x.pump(1, 2, 9, 20, 4, 5);
        x.strike(4, 6, 1);
        x.terms(0, -2);
        x.terms(1, 44);
        write(x, "flows 2");
        x.law();
        x.force(0);
        x.gate(6, 0, 95);
        x.mill(1);
        x.boat(1, 0);
        x.moor(0, 1, 2);
        x.pour(1, 0, 2, 8);
        x.sight(3, 1, 2, 1);
        x.job(3, 2, 1);
        x.wish(3, 0, 5, 1);
        x.week(3, 50);
        write(x, "flows (");
        x.law();
        x.feed(0, 0, 0, 0, 0);
    }

    private static void full(NineRiver x) {
        int[] counts = {1, 3, 1, 1, 1, 1, 1, 1, 1};
        for (int what = 0; what <= 8; what++) {
            due(51, "count(" + what + ")", x.count(what), counts[what]);
        }
        due(51, "count(15)", x.count(15), 0);
        due(51, "of(1, 3)", x.of(1, 3), 4);
        due(51, "flow(0, 0)", x.flow(0, 0), 2);
        due(51, "where(0, 0, 9) at the gate", x.where(0, 0, 9), 6);
        due(51, "grinds(0, 0, 0)", x.grinds(0, 0, 0), 2);
        due(51, "sails(0, 4, 0)", x.sails(0, 4, 0), 5);
        due(51, "dye(3, 1, 2)", x.dye(3, 1, 2), 8);
        due(51, "so(0)", x.so(0), 1);
        due(51, "laundry(0)", x.laundry(0), 4);
        due(51, "granted()", x.granted(), 1);
        due(51, "terms(1, 44)", x.terms(1, 44), 44);
        due(51, "terms(0, -2)", x.terms(0, -2), -2);
    }

    private static void promise52() {
        NineRiver x = new NineRiver();
        due(52, "count(-1)", x.count(-1), NONE);
        due(52, "count(16)", x.count(16), NONE);
        x.pump(9, 0, 0, 0, 0, 0);
        x.open(0);
        x.moor(0, 0, 0);
        x.undo();
        x.row();
        x.law();
        x.terms(9, 9);
        for (int i = 0; i < 9; i++) {
            x.mill(0);
        }
        due(52, "count(10)", x.count(10), 1);
        due(52, "count(11)", x.count(11), 3);
        due(52, "count(12)", x.count(12), 1);
        due(52, "count(13)", x.count(13), 3);
        due(52, "count(14)", x.count(14), 2);
        x.image(0);
        x.undo();
        x.back(0);
        due(52, "images do not keep that", x.count(12), 2);
        x.flow(-1, -1);
        x.so(9);
        x.end(-1);
        x.duck(-1, 0, 0);
        due(52, "NONE and NOTHING are no refusals", x.count(10), 1);
        x.feed(0, 0, 0, 0, 0);
        due(52, "count(9)", x.count(9), 20);
        x.strike(3, 9, 1);
        due(52, "count(1)", x.count(1), 7);
    }

    private static void promise53() {
        NineRiver x = new NineRiver();
        due(53, "status() ahead of any", x.status(), 0);
        // Each call of the list takes a refusal's status away.
        for (int i = 0; i < 20; i++) {
            x.undo();
            while (x.count(5) > 0) {
                x.undo();
            }
            x.undo();
            due(53, "status()", x.status(), -3);
            if (i == 12) {
                x.pour(0, 0, 0, 1);
            }
            succeed(x, i);
            due(53, "status() behind call " + i, x.status(), 0);
        }
        x.undo();
        x.undo();
        x.flow(0, 0);
        x.feed(1, 1, 1, 1, 1);
        x.end(0);
        x.forget();
        x.hang();
        x.drop();
        x.count(0);
        x.granted();
        x.best(0, 0);
        x.laundry(0);
        x.suspects(9, 9);
        due(53, "others leave it", x.status(), -3);
    }

    private static void succeed(NineRiver x, int i) {
        switch (i) {
            case 0: x.pump(0, 0, 0, 0, 0, 0); break;
            case 1: x.strike(0, 0, 0); break;
            case 2: x.gate(0, 0, 0); break;
            case 3: x.open(0); break;
            case 4: x.mill(0); break;
            case 5: x.terms(0, 1); break;
            case 6: x.feed(1, 1, 1, 1, 1); x.row(); break;
            case 7: write(x, "bars if 1=2"); x.law(); break;
            case 8: x.force(0); break;
            case 9: x.boat(0, 0); break;
            case 10: x.moor(0, 0, 0); break;
            case 11: x.pour(0, 0, 0, 1); break;
            case 12: x.undo(); break;
            case 13: x.sight(0, 0, 0, 0); break;
            case 14: x.job(0, 1, 0); break;
            case 15: x.wish(0, 0, 0, 0); break;
            case 16: x.set(0); break;
            case 17: x.week(0, 0); break;
            case 18: x.image(0); break;
            default: x.back(0); break;
        }
    }

    /** What was found once is found anew when what it was found by has changed. */
    private static void nothingIsStale() {
        NineRiver x = new NineRiver();
        x.job(5, 1, 0);
        x.wish(0, 0, 3, 3);
        x.sight(5, 3, 0, 1);
        due(39, "laundry(0)", x.laundry(0), 1);
        x.pour(5, 0, 0, 1);
        due(39, "laundry(0) behind pour", x.laundry(0), 2);
        x.feed(0x05010001, 0, 0, 0, 0);
        x.end(4);
        x.row();
        due(39, "laundry(0) behind row", x.laundry(0), 3);
        x.undo();
        due(39, "laundry(0) behind undo", x.laundry(0), 2);
        x.terms(0, 0);
        due(39, "laundry(0) behind terms", x.laundry(0), NONE);
        due(35, "suspects(0, 0)", x.suspects(0, 0), 5);
        x.terms(0, 1);
        due(35, "suspects(0, 0) behind terms", x.suspects(0, 0), 2);
        x.gate(4, 0, 95);
        due(35, "suspects(0, NONE) behind gate", x.suspects(0, NONE), 1);
        x.open(0);
        due(35, "suspects(0, NONE) behind open", x.suspects(0, NONE), 4);
        x.pump(0, 0, 23, 0, 3, 1);
        due(46, "best(0, 0)", x.best(0, 0), 1);
        due(46, "best(0, 1)", x.best(0, 1), 3);
        x.strike(3, 3, 1);
        due(46, "best(0, 1) behind strike", x.best(0, 1), 3);
        x.strike(0, 95, 1);
        due(46, "best(0, 1) behind strike", x.best(0, 1), 0);
        x.drop();
        x.wish(0, 0, 0, 3);
        due(46, "best(0, 0) behind wish", x.best(0, 0), 0);
        x.strike(0, 95, 0);
        due(46, "best(0, 2) behind strike", x.best(0, 2), 3);
        write(x, "costs 3 + mills");
        x.law();
        due(18, "asks", x.asks(0, 0, 0), 1);
        x.force(0);
        due(18, "asks behind force", x.asks(0, 0, 0), 3);
        x.mill(0);
        due(18, "asks behind mill", x.asks(0, 0, 0), 4);
        x.image(0);
        x.mill(0);
        due(18, "asks behind mill", x.asks(0, 0, 0), 5);
        x.back(0);
        due(18, "asks behind back", x.asks(0, 0, 0), 4);
    }

    public static void main(String[] args) {
        due(1, "NONE", NineRiver.NONE, -1);
        due(1, "NOTHING", NineRiver.NOTHING, -1000);
        promise1();
        promise2();
        promise3();
        promise4();
        promise5();
        promise6();
        promise7();
        promise8();
        promise9();
        promise10and11();
        promise12and13();
        promise14and15();
        promise16();
        promise17();
        promise18();
        promise19();
        promise20();
        promise21();
        promise22and23();
        promise24();
        promise25();
        promise26and27();
        promise28();
        promise29();
        promise30();
        promise31();
        promise32to34();
        promise35and36();
        promise37to39();
        promise40();
        promise41();
        promise42();
        promise43to45();
        promise46and47();
        promise48and49();
        promise50and51();
        promise52();
        promise53();
        nothingIsStale();
        System.out.println(asked + " answers, " + wrong + " not as due");
        if (wrong != 0) {
            System.exit(1);
        }
    }
}
