import java.io.IOException;

/**
 * The document's Terms I to IV: each sentence that names a boundary case, word for word, and a run of calls of its own,
 * worked out by hand. Runs tells how a row is written.
 */
public final class TermsTests {
    private static Runs runs;

    private static void edge(String sentence, String rows) {
        runs.edge(sentence, rows);
    }

    private static String good(String text) {
        return "good \"" + text + "\"\n";
    }

    private static String fault(int place, String text) {
        return "fault " + place + " \"" + text.replace("\n", "\\n") + "\"\n";
    }

    private static void river() {
        edge("CELLS 0 .. 23 of a RIVER, 24 the SEA", """
            flow 0 0 -> 1
            flow 23 0 -> 1
            flow -1 0 -> -1000
            flow 24 0 -> -1000
            where 0 0 23 -> 23
            where 0 0 24 -> 24
            where 24 0 1 -> -1
            dye 24 0 0 -> 0
            dye 25 0 0 -> -1
            """);
        edge("HOURS 0 .. 95", """
            flow 0 0 -> 1
            flow 0 95 -> 1
            flow 0 -1 -> -1000
            flow 0 96 -> -1000
            strike 0 95 1 -> 96
            strike 0 96 1 -> -1
            strike -1 0 1 -> -1
            boat 0 95 -> 0
            boat 0 96 -> -1
            """);
        edge("DAY: the HOUR through 24", """
            rule "flows day"
            flow 0 0 -> 0
            flow 0 23 -> 0
            flow 0 24 -> 1
            flow 0 47 -> 1
            flow 0 48 -> 2
            flow 0 71 -> 2
            flow 0 72 -> 3
            flow 0 95 -> 3
            """);
        edge("CLOCK: the HOUR modulo 24", """
            rule "costs hour"
            asks 0 0 0 -> 0
            asks 0 23 0 -> 23
            asks 0 24 0 -> 0
            asks 0 72 0 -> 0
            asks 0 95 0 -> 23
            """);
    }

    private static void pumps() {
        edge("PUMPS 0 and 1", """
            pump 0 0 23 0 0 1 -> 0
            flow 0 0 -> 0
            pump 1 0 23 0 0 1 -> 0
            flow 0 0 -> -1
            pump 2 0 23 0 0 1 -> -2
            pump -1 0 23 0 0 1 -> -2
            flow 0 0 -> -1
            """);
        edge("from CELL a to CELL b (not below a)", """
            pump 0 5 7 0 0 1 -> 0
            flow 4 0 -> 1
            flow 5 0 -> 0
            flow 7 0 -> 0
            flow 8 0 -> 1
            pump 0 5 5 0 0 1 -> 0
            flow 4 0 -> 1
            flow 5 0 -> 0
            flow 6 0 -> 1
            pump 0 5 4 0 0 1 -> -1
            flow 5 0 -> 0
            pump 0 0 0 0 0 1 -> 0
            flow 0 0 -> 0
            flow 1 0 -> 1
            pump 0 23 23 0 0 1 -> 0
            flow 23 0 -> 0
            flow 22 0 -> 1
            """);
        edge("from CLOCK c till CLOCK d (d itself not", """
            pump 0 0 23 9 12 1
            flow 0 8 -> 1
            flow 0 9 -> 0
            flow 0 11 -> 0
            flow 0 12 -> 1
            flow 0 33 -> 0
            flow 0 36 -> 1
            pump 0 0 23 0 23 1
            flow 0 22 -> 0
            flow 0 23 -> 1
            flow 0 24 -> 0
            flow 0 95 -> 1
            pump 0 0 23 0 1 1
            flow 0 0 -> 0
            flow 0 1 -> 1
            """);
        edge("c and d the same: always", """
            pump 0 0 23 7 7 1
            flow 0 0 -> 0
            flow 0 6 -> 0
            flow 0 7 -> 0
            flow 0 8 -> 0
            flow 0 95 -> 0
            pump 0 0 23 23 23 1
            flow 0 22 -> 0
            flow 0 23 -> 0
            flow 0 24 -> 0
            """);
        edge("c above d: over midnight", """
            pump 0 0 23 23 1 1
            flow 0 0 -> 0
            flow 0 1 -> 1
            flow 0 22 -> 1
            flow 0 23 -> 0
            flow 0 24 -> 0
            flow 0 25 -> 1
            flow 0 95 -> 0
            pump 0 0 23 23 0 1
            flow 0 0 -> 1
            flow 0 22 -> 1
            flow 0 23 -> 0
            flow 0 24 -> 1
            pump 0 0 23 8 7 1
            flow 0 6 -> 0
            flow 0 7 -> 1
            flow 0 8 -> 0
            """);
        edge("so STRONG 0 .. 6 (0 at first: off; CELLS 0 .. 23, CLOCK 0 .. 0)", """
            of 0 0 -> 0
            of 0 1 -> 23
            of 0 2 -> 0
            of 0 3 -> 0
            of 0 4 -> 0
            of 1 0 -> 0
            of 1 1 -> 23
            of 1 2 -> 0
            of 1 3 -> 0
            of 1 4 -> 0
            flow 0 0 -> 1
            pump 0 0 23 0 0 6 -> 0
            flow 0 0 -> -5
            pump 0 0 23 0 0 7 -> -1
            pump 0 0 23 0 0 -1 -> -1
            flow 0 0 -> -5
            pump 0 0 23 0 0 0 -> 0
            flow 0 0 -> 1
            """);
        edge("STRIKES: HOURS in which PUMPS stand still", """
            pump 0 0 23 0 0 2
            pump 1 0 23 0 0 3
            strike 1 1 1
            flow 0 0 -> -4
            flow 0 1 -> 1
            flow 0 2 -> -4
            strike 95 95 1
            flow 0 94 -> -4
            flow 0 95 -> 1
            strike 0 0 1
            flow 0 0 -> 1
            """);
    }

    private static void things() {
        edge("GATES 0 .. 7 (8 at most)", """
            gate 0 0 0 -> 0
            6 times gate 0 0 0 -> 6
            gate 23 95 95 -> 7
            gate 0 0 0 -> -5
            status -> -5
            count 2 -> 8
            open 8 -> -2
            open 7 -> 7
            gate 1 0 0 -> 7
            """);
        edge("between a CELL 0 .. 23 and the next one (the SEA behind 23), shut in HOURS from .. till", """
            gate 5 3 4 -> 0
            where 5 2 3 -> 6
            where 5 3 4 -> 5
            where 5 4 5 -> 5
            where 5 5 6 -> 6
            where 6 3 4 -> 7
            where 4 3 4 -> 5
            terms 0 -1
            where 6 2 3 -> 5
            where 6 3 4 -> 6
            where 6 4 5 -> 6
            where 6 5 6 -> 5
            where 5 3 4 -> 4
            where 7 3 4 -> 6
            new
            gate 23 0 95 -> 0
            where 23 0 96 -> 23
            where 22 0 96 -> 23
            gate 0 0 0 -> 1
            where 0 0 1 -> 0
            where 0 1 2 -> 1
            gate -1 0 0 -> -1
            gate 24 0 0 -> -1
            """);
        edge("MILLS 0 .. 5 (6 at most): at a CELL", """
            mill 0 -> 0
            4 times mill 1 -> 4
            mill 23 -> 5
            mill 0 -> -5
            status -> -5
            mill 24 -> -1
            mill -1 -> -1
            count 3 -> 6
            grinds 5 0 0 -> 1
            grinds 6 0 0 -> -1
            """);
        edge("BOATS 0 .. 5 (6 at most): put in at a CELL in an HOUR", """
            boat 0 0 -> 0
            4 times boat 1 1 -> 4
            boat 23 95 -> 5
            boat 0 0 -> -5
            status -> -5
            count 4 -> 6
            sails 0 0 0 -> 0
            sails 5 95 0 -> 23
            sails 6 95 0 -> -1
            """);
        edge("each may be MOORED in HOURS from .. till", """
            boat 0 0
            boat 1 1
            boat 2 2
            moor 0 2 3 -> 0
            sails 0 2 0 -> 2
            sails 0 3 0 -> 2
            sails 0 4 0 -> 2
            sails 0 5 0 -> 3
            sails 1 5 0 -> 5
            moor 1 1 1 -> 0
            sails 1 2 0 -> 1
            sails 1 3 0 -> 2
            sails 0 5 0 -> 3
            sails 2 5 0 -> 5
            moor 2 0 95 -> 0
            sails 2 95 0 -> 2
            """);
        edge("POURS 0 .. 15 (16 at most): at a CELL in an HOUR, a COLOUR 0 .. 3, an amount 1 .. 99", """
            pour 0 0 0 1 -> 0
            14 times pour 23 95 3 99 -> 14
            pour 5 5 2 50 -> 15
            pour 0 0 0 1 -> -5
            status -> -5
            count 5 -> 16
            dye 23 95 3 -> 1386
            new
            pour 0 0 -1 1 -> -1
            pour 0 0 4 1 -> -1
            pour 0 0 0 0 -> -1
            pour 0 0 0 100 -> -1
            count 5 -> 0
            pour 0 0 3 99 -> 0
            dye 0 0 3 -> 99
            pour 0 0 0 1 -> 1
            dye 0 0 0 -> 1
            """);
        edge("TERMS: 0 NATURAL -3 .. 3 (1 at first), 1 YEAR 0 .. 99 (0)", """
            terms 0 -3 -> 1
            flow 9 0 -> -3
            terms 0 3 -> -3
            flow 9 0 -> 3
            terms 0 4 -> -1000
            terms 0 -4 -> -1000
            flow 9 0 -> 3
            terms 1 99 -> 0
            terms 1 0 -> 99
            terms 1 100 -> -1000
            terms 1 -1 -> -1000
            terms 1 0 -> 0
            terms 2 0 -> -1000
            terms -1 0 -> -1000
            rule "costs year"
            terms 1 99
            asks 0 0 0 -> 99
            """);
    }

    private static void refusals() {
        edge("-1 a number that can't be", """
            pump 0 24 24 0 0 1 -> -1
            status -> -1
            strike 0 0 2 -> -1
            status -> -1
            count 10 -> 2
            count 11 -> 0
            """);
        edge("-2 there is no such PUMP, GATE, MILL, BOAT, POUR, LAW, SIGHT, JOB, WISH, IMAGE", """
            pump 2 0 23 0 0 1 -> -2
            status -> -2
            open 0 -> -2
            status -> -2
            moor 0 0 0 -> -2
            status -> -2
            force 0 -> -2
            status -> -2
            set 2 -> -2
            status -> -2
            back 0 -> -2
            status -> -2
            count 11 -> 6
            """);
        edge("-3 it can't be by what stands", """
            undo -> -3
            status -> -3
            rule "bars if cell = 3"
            pour 3 0 0 1 -> -3
            status -> -3
            count 12 -> 2
            pour 4 0 0 1 -> 0
            """);
        edge("-5 no room", """
            8 times gate 0 0 0 -> 7
            gate 0 0 0 -> -5
            6 times mill 0 -> 5
            mill 0 -> -5
            6 times boat 0 0 -> 5
            boat 0 0 -> -5
            16 times pour 0 0 0 1 -> 15
            pour 0 0 0 1 -> -5
            10 times sight 0 0 0 0 -> 10
            sight 0 0 0 0 -> -5
            6 times job 0 1 0 -> 6
            job 0 1 0 -> -5
            6 times wish 0 0 0 0 -> 6
            wish 0 0 0 0 -> -5
            status -> -5
            rule "bars if 1=2"
            rule "bars if 1=2"
            rule "bars if 1=2"
            rule "bars if 1=2"
            rule "bars if 1=2"
            rule "bars if 1=2"
            tape "bars"
            law -> -5
            count 13 -> 8
            count 10 -> 0
            """);
        edge("-6 a TEXT, a ROW that can't be", """
            row -> -6
            status -> -6
            tape "flow"
            law -> -6
            status -> -6
            law -> -6
            count 14 -> 3
            """);
        edge("The first of these in that order.", """
            pump 2 0 23 0 0 7 -> -1
            pump -1 0 24 0 0 1 -> -1
            moor 0 1 0 -> -1
            moor 9 0 96 -> -1
            back 2 -> -1
            back -1 -> -1
            8 times gate 0 0 0
            gate 24 0 0 -> -1
            gate 0 1 0 -> -1
            6 times mill 0
            mill 24 -> -1
            6 times boat 0 0
            boat 0 96 -> -1
            10 times sight 0 0 0 0
            sight 0 97 0 0 -> -1
            6 times job 0 1 0
            job 0 0 0 -> -1
            6 times wish 0 0 0 0
            wish 0 1 0 0 -> -1
            16 times pour 0 0 0 1
            pour 0 0 0 100 -> -1
            rule "bars if cell = 3"
            pour 3 0 0 100 -> -1
            pour 3 0 0 1 -> -3
            pour 4 0 0 1 -> -5
            rule "bars"
            rule "bars"
            rule "bars"
            rule "bars"
            rule "bars"
            law -> -5
            tape "flow"
            law -> -5
            fault -> -1
            """);
    }

    private static void texts() {
        edge("LAWS are TEXTS, 6 at most", """
            tape "flows 0"
            law -> 0
            tape "flows 1"
            law -> 1
            tape "flows 2"
            law -> 2
            tape "flows 3"
            law -> 3
            tape "flows 4"
            law -> 4
            tape "flows 5"
            law -> 5
            tape "flows 6"
            law -> -5
            status -> -5
            count 0 -> 6
            force 6 -> -2
            force 5 -> -1
            flow 0 0 -> 5
            force 0 -> 5
            flow 0 0 -> 0
            """);
        edge("on a TAPE of at most 400 bytes", """
            20 times feed 0 0 0 0 0 -> 400
            feed 0 0 0 0 0 -> -1
            count 9 -> 400
            """ + good(" ".repeat(396) + "bars") + fault(396, " ".repeat(396) + "barf") + fault(400, " ".repeat(395) + "flows"));
        edge("one is in FORCE (NONE at first: no CLAUSE)", """
            count 15 -> -1
            tape "flows 4; costs 4; bars; tolls 4"
            law -> 0
            count 15 -> -1
            flow 0 0 -> 1
            asks 0 0 0 -> 1
            asks 0 0 1 -> 0
            asks 0 0 2 -> 0
            force 0 -> -1
            count 15 -> 0
            flow 0 0 -> 4
            asks 0 0 0 -> 4
            asks 0 0 1 -> 1
            asks 0 0 2 -> 4
            """);
        edge("TOKENS: longest rows of letters a .. z, of digits, single other bytes, any blanks (32) between.",
            good("flows1") + good("flows 1if1=1") + good("bars if 1=1or 2=2and not3=3") + good("  flows  [  1  ]  ") + good("flows[1]")
            + fault(0, "flowsbars 1") + fault(6, "flows cellhour") + fault(8, "flows 1 0") + fault(0, "fl ows 1") + fault(6, "flows c ell")
            + fault(0, "Flows 1") + fault(0, "flowS 1") + fault(5, "flowsS 1") + fault(0, "flowsif 1") + fault(14, "bars if cell <= 1") + fault(11, "bars if 1 <> 1")
            + fault(7, "flows 1:") + fault(5, "flows`1") + fault(5, "flows{1") + fault(5, "flows@1") + fault(5, "flows!1") + fault(6, "flows /1")
            + fault(5, "flows" + (char) 9 + "1") + fault(5, "flows" + (char) 0 + "1") + fault(7, "flows 1" + (char) 10)
            + fault(7, "flows 1" + (char) 255) + fault(7, "flows 1" + (char) 160) + fault(0, (char) 225 + "flows 1")
            + fault(0, (char) 255 + " 1") + fault(0, (char) 254 + " 1") + fault(0, (char) 128 + "") + fault(7, "flows 1" + (char) 0) + fault(0, (char) 0 + "bars"));
    }

    private static void grammar() {
        edge("CLAUSE {\";\" CLAUSE}",
            good("bars;bars") + fault(5, "bars;") + fault(5, "bars;;bars") + fault(0, ";bars") + fault(5, "bars bars") + fault(4, "bars,bars"));
        edge("12 at most (FAULT at the 13th's first TOKEN)",
            good("bars;".repeat(11) + "bars") + fault(60, "bars;".repeat(12) + "bars") + fault(62, "bars;".repeat(12) + "  flows 1")
            + fault(60, "bars;".repeat(12) + "x") + fault(60, "bars;".repeat(12)));
        edge("CLAUSE: ((\"flows\" | \"costs\" | \"tolls\") SUM | \"bars\") [\"if\" TEST].",
            good("flows 1") + good("costs 1") + good("tolls 1") + good("bars") + good("flows 1 if 1=1") + good("bars if 1=1")
            + fault(5, "flows") + fault(5, "costs") + fault(5, "tolls") + fault(5, "bars 1") + fault(6, "flows if 1=1") + fault(10, "flows 1 if")
            + fault(7, "bars if") + fault(0, "if 1=1") + fault(0, "1") + fault(12, "bars if 1=1 if 1=1") + fault(12, "bars if 1=1 1") + fault(8, "flows 1 flows 1"));
        edge("TEST: BOTH {\"or\" BOTH}.",
            good("bars if 1=1 or 1=1 or 1=1") + fault(14, "bars if 1=1 or") + fault(15, "bars if 1=1 or or 1=1") + fault(8, "bars if or 1=1")
            + fault(15, "bars if 1=1 or and 1=1"));
        edge("BOTH: PLAIN {\"and\" PLAIN}.",
            good("bars if 1=1 and 1=1 and 1=1") + fault(15, "bars if 1=1 and") + fault(16, "bars if 1=1 and and 1=1") + fault(8, "bars if and 1=1")
            + fault(16, "bars if 1=1 and or 1=1"));
        edge("PLAIN: \"not\" PLAIN | \"(\" TEST \")\" | SUM (\"<\" | \">\" | \"=\") SUM.",
            good("bars if not 1=1") + good("bars if not not not 1=1") + good("bars if not (1=1)") + good("bars if (not 1=1 or 1=1)")
            + good("bars if 1<1 or 1>1 or 1=1") + good("bars if " + "not ".repeat(97) + "1=1")
            + fault(11, "bars if not") + fault(13, "bars if not 1") + fault(9, "bars if 1") + fault(10, "bars if 1=") + fault(11, "bars if 1=1=1")
            + fault(10, "bars if 1==1") + fault(9, "bars if ()") + fault(12, "bars if (1=1") + fault(12, "bars if (1=1]") + fault(11, "bars if 1=1)")
            + fault(10, "bars if (1)=1") + fault(10, "bars if [1=1]") + fault(8, "bars if =1") + fault(8, "bars if )") + fault(13, "bars if (1=1)=1"));
        edge("SUM: TERM {(\"+\" | \"-\") TERM}.",
            good("flows 1+1-1") + fault(6, "flows +1") + fault(6, "flows -1") + fault(8, "flows 1+") + fault(8, "flows 1++1") + fault(8, "flows 1--1"));
        edge("TERM: PART {(\"*\" | \"/\" | \"%\") PART}.",
            good("flows 1*1/1%1") + fault(6, "flows *1") + fault(8, "flows 1*") + fault(8, "flows 1*/1") + fault(8, "flows 1%%1") + fault(8, "flows 1*-1"));
        edge("PART: NUMBER (to 1,000)",
            good("flows 1000") + good("flows 0") + fault(6, "flows 1001") + fault(6, "flows 9999") + fault(6, "flows 4294967297")
            + fault(6, "flows 18446744073709551617") + fault(8, "flows 1+1001") + good("flows 0000000000000000001000") + fault(6, "flows 00001001"));
        edge("\"[\" SUM \"]\" | \"cell\" | \"hour\" | \"day\" | \"strike\" | \"pumped\" | \"mills\" | \"natural\" | \"down\" | \"year\".",
            good("flows [1]") + good("flows [[1]*[1]]") + good("flows cell+hour+day+strike+pumped+mills+natural+down+year")
            + fault(7, "flows []") + fault(8, "flows [1") + fault(8, "flows [1)") + fault(6, "flows ]") + fault(6, "flows (1)") + fault(7, "flows 1]")
            + fault(6, "flows up") + fault(6, "flows cells") + fault(6, "flows cel") + fault(6, "flows bars") + fault(6, "flows not") + fault(6, "flows days")
            + fault(6, "flows naturall") + fault(6, "flows naturalnatural") + fault(6, "flows clock"));
    }

    private static void limits() {
        edge("50 PARTS that are NUMBERS and words (FAULT at the 51st)",
            good("flows 1" + "+1".repeat(49)) + fault(106, "flows 1" + "+1".repeat(50)) + fault(106, "flows 1" + "+1".repeat(50) + "+1")
            + good("flows [1]" + "+[1]".repeat(49)) + fault(207, "flows [1]" + "+[1]".repeat(50)) + good("flows day" + "+day".repeat(49))
            + fault(206, "flows day" + "+day".repeat(50)) + good("bars if 1=1" + " or 1=1".repeat(24)) + fault(183, "bars if 1=1" + " or 1=1".repeat(25))
            + fault(112, "flows 1" + "+1".repeat(49) + ";flows 1") + good("flows 1" + "+1".repeat(49) + ";bars") + fault(106, "flows 1" + "+1".repeat(49) + "+1001"));
        edge("8 brackets of both kinds within one another (FAULT at the 9th) at most",
            good("flows " + "[".repeat(8) + "1" + "]".repeat(8)) + fault(14, "flows " + "[".repeat(9) + "1" + "]".repeat(9))
            + good("bars if " + "(".repeat(8) + "1=1" + ")".repeat(8)) + fault(16, "bars if " + "(".repeat(9) + "1=1" + ")".repeat(9))
            + good("bars if ((((" + "[[[[1]]]]=[[[[1]]]]))))") + fault(16, "bars if ((((" + "[[[[[1]]]]]=1))))") + fault(26, "bars if ((((" + "[[[[1]]]]=[[[[[1]]]]]))))")
            + good("bars if (((((((1=[1])))))))") + fault(18, "bars if ((((((((1=[1]))))))))")
            + good("flows [[[[[[[[1]]]]]]]]+[[[[[[[[1]]]]]]]]") + good("flows [[[[[[[[1]]]]]]]] if ((((((((1=1))))))));bars if ((((((((1=1))))))))"));
        edge("FAULT: the first TOKEN that can't go on there (the end's: the TEXT's length).",
            fault(5, "flows") + fault(8, "flows   ") + fault(8, "   flows") + fault(0, "") + fault(1, " ") + fault(8, "flows 1 2 3") + fault(0, "x flows 1")
            + fault(3, "   x   ") + fault(8, "flows 1 ) if") + fault(10, "flows 1 if") + fault(13, "flows 1 if   "));
    }

    private static void asking() {
        edge("hour: the CLOCK", """
            rule "costs hour"
            asks 0 24 0 -> 0
            asks 0 47 0 -> 23
            """);
        edge("strike: 1 in a STRIKE, else 0", """
            rule "flows strike*2"
            strike 5 6 1
            flow 0 4 -> 0
            flow 0 5 -> 2
            flow 0 6 -> 2
            flow 0 7 -> 0
            """);
        edge("pumped: how STRONG PUMPS are together there then (0 in a STRIKE)", """
            rule "costs pumped"
            pump 0 0 5 0 12 2
            pump 1 5 9 6 0 3
            asks 4 6 0 -> 2
            asks 5 6 0 -> 5
            asks 6 6 0 -> 3
            asks 10 6 0 -> 0
            asks 5 5 0 -> 2
            asks 5 11 0 -> 5
            asks 5 12 0 -> 3
            strike 11 11 1
            asks 5 11 0 -> 0
            pump 0 5 5 0 0 6
            pump 1 5 5 0 0 6
            asks 5 0 0 -> 12
            """);
        edge("mills: how many MILLS are there", """
            rule "costs mills"
            asks 5 0 0 -> 0
            mill 5
            asks 5 0 0 -> 1
            5 times mill 5
            asks 5 95 0 -> 6
            asks 4 0 0 -> 0
            asks 6 0 0 -> 0
            """);
        edge("down: 1 for a toll down, 0 up, -1 otherwise", """
            rule "flows down; costs 5+down; tolls 5+down; bars if down=0-1 and cell=3; bars if down>0-1 and cell=4"
            flow 0 0 -> -1
            asks 0 0 0 -> 4
            asks 0 0 2 -> 6
            asks 0 0 3 -> 5
            asks 3 0 1 -> 1
            asks 4 0 1 -> 0
            """);
        edge("Beyond 1,000,000,000 either way", """
            rule "costs 7; costs 5 if 1000*1000*1000 > 0"
            asks 0 0 0 -> 5
            rule "costs 7; costs 5 if 1000*1000*1000+cell > 0"
            asks 0 0 0 -> 5
            asks 1 0 0 -> 7
            rule "costs 7; costs 5 if 0-1000*1000*1000-cell < 0"
            asks 0 0 0 -> 5
            asks 1 0 0 -> 7
            rule "costs 7; costs 1000*1000*1000+cell"
            asks 0 0 0 -> 999
            asks 1 0 0 -> 7
            rule "costs 7; costs 0-1000*1000*1000-cell"
            asks 0 0 0 -> 0
            asks 1 0 0 -> 7
            rule "costs 7; costs [1000*1000*1000+cell]%9"
            asks 0 0 0 -> 1
            asks 1 0 0 -> 7
            new
            rule "costs 7; costs 5 if 1000*1000*1000*1000*1000*1000*1000*1000*1000*1000 = 0"
            asks 0 0 0 -> 7
            rule "costs 7; costs 5 if [0-1000*1000*1000]*[0-1000*1000*1000] > 0"
            asks 0 0 0 -> 7
            rule "costs 7; costs 5 if 1 = 1000*1000*1000+cell"
            asks 1 0 0 -> 7
            rule "costs 7; costs 5 if not 1 = 1000*1000*1000+cell"
            asks 0 0 0 -> 5
            asks 1 0 0 -> 7
            """);
        edge("or divided by 0 (/ cut towards 0, % what is left then), a SUM, a TEST is BROKEN", """
            rule "flows 4; flows 6/cell"
            flow 0 0 -> 4
            flow 3 0 -> 2
            rule "flows 4; flows 7%cell"
            flow 0 0 -> 4
            flow 4 0 -> 3
            rule "flows 4; flows 2 if 1/cell < 2"
            flow 0 0 -> 4
            flow 1 0 -> 2
            rule "flows 4; flows 2 if 1%cell < 2"
            flow 0 0 -> 4
            flow 1 0 -> 2
            rule "flows 4; flows 0/cell"
            flow 0 0 -> 4
            flow 1 0 -> 0
            rule "flows 4; flows cell*[1/cell]"
            flow 0 0 -> 4
            new
            rule "flows [0-7]/2"
            flow 0 0 -> -3
            rule "flows 7/[0-2]"
            flow 0 0 -> -3
            rule "flows [0-7]/[0-2]"
            flow 0 0 -> 3
            rule "flows [0-7]%4"
            flow 0 0 -> -3
            rule "flows 7%[0-4]"
            flow 0 0 -> 3
            rule "flows [0-8]%4"
            flow 0 0 -> 0
            """);
    }

    private static void holding() {
        edge("A CLAUSE HOLDS, if its \"if\" (if it has one) is so, and neither that nor its SUM is BROKEN", """
            rule "flows 4; flows 2 if cell = 1"
            flow 0 0 -> 4
            flow 1 0 -> 2
            rule "flows 4; flows 2 if not 1/cell = 9"
            flow 0 0 -> 4
            flow 1 0 -> 2
            rule "flows 4; flows 2/cell if 1 = 1"
            flow 0 0 -> 4
            flow 1 0 -> 2
            rule "bars if 1/cell = 1"
            asks 0 0 1 -> 0
            asks 1 0 1 -> 1
            asks 2 0 1 -> 0
            rule "bars if not 1/cell = 1"
            asks 0 0 1 -> 0
            asks 1 0 1 -> 0
            asks 2 0 1 -> 1
            rule "flows 1/0"
            flow 0 0 -> 1
            """);
        edge("(\"or\", \"and\" ask what stands behind only if it can still matter)", """
            rule "flows 4 if cell = 0 or 1/cell = 1"
            flow 0 0 -> 4
            flow 1 0 -> 4
            flow 2 0 -> 1
            rule "flows 4 if 1/cell = 1 or cell = 0"
            flow 0 0 -> 1
            flow 1 0 -> 4
            rule "flows 4 if not (cell > 0 and 1/cell = 1)"
            flow 0 0 -> 4
            flow 1 0 -> 1
            flow 2 0 -> 4
            rule "flows 4 if not (1/cell = 1 and cell > 0)"
            flow 0 0 -> 1
            rule "flows 4 if 1 = 2 and 1/0 = 1 or 1 = 1"
            flow 0 0 -> 4
            rule "flows 4 if 1 = 1 or 1/0 = 1 and 1/0 = 1 or 1/0 = 1"
            flow 0 0 -> 4
            new
            rule "flows 4 if 1 = 2 or 1 = 1 and 1/0 = 1"
            flow 0 0 -> 1
            rule "flows 4 if 1 = 1 and 1 = 1 or 1/0 = 1"
            flow 0 0 -> 4
            rule "flows 4 if (1 = 2 or 1 = 1) and (1 = 1 or 1/0 = 1)"
            flow 0 0 -> 4
            rule "flows 4 if 1 = 2 and (1/0 = 1 or 1/0 = 1) or not 1 = 2"
            flow 0 0 -> 4
            """);
        edge("FLOW is what the last \"flows\" that HOLDS tells, -6 .. 6 (else the nearest)", """
            rule "flows cell-9"
            flow 2 0 -> -6
            flow 3 0 -> -6
            flow 4 0 -> -5
            flow 14 0 -> 5
            flow 15 0 -> 6
            flow 16 0 -> 6
            rule "flows 2; flows 3; flows 4 if cell = 1; flows 5 if cell = 2; costs 6"
            flow 0 0 -> 3
            flow 1 0 -> 4
            flow 2 0 -> 5
            """);
        edge("without one NATURAL less pumped (nearest too)", """
            terms 0 -3
            pump 0 0 23 0 0 3
            flow 9 0 -> -6
            pump 1 0 23 0 0 1
            flow 9 0 -> -6
            pump 0 0 23 0 0 6
            pump 1 0 23 0 0 6
            flow 9 0 -> -6
            terms 0 3
            flow 9 0 -> -6
            pump 1 0 23 0 0 2
            flow 9 0 -> -5
            strike 0 0 1
            flow 9 0 -> 3
            rule "costs 5; flows 2 if cell = 1"
            flow 9 0 -> 3
            flow 9 1 -> -5
            """);
        edge("A throw COSTS what \"costs\" tells, 0 .. 999, 1 without.", """
            asks 0 0 0 -> 1
            rule "costs 998+cell"
            asks 0 0 0 -> 998
            asks 1 0 0 -> 999
            asks 2 0 0 -> 999
            rule "costs cell-1"
            asks 0 0 0 -> 0
            asks 1 0 0 -> 0
            asks 2 0 0 -> 1
            rule "costs 5 if cell = 9"
            asks 0 0 0 -> 1
            asks 9 0 0 -> 5
            rule "costs 5; costs 6; costs 7 if cell = 9"
            asks 0 0 0 -> 6
            new
            rule "costs cell+hour*24"
            asks 23 0 0 -> 23
            asks 0 1 0 -> 24
            asks 1 1 0 -> 25
            asks 23 1 0 -> 47
            asks 0 2 0 -> 48
            """);
        edge("A crossing from a CELL to the one beside it TOLLS what \"tolls\" tells (asked of the CELL that is left), 0 .. 99, 0 without.", """
            asks 0 0 2 -> 0
            asks 0 0 3 -> 0
            rule "tolls 98+cell"
            asks 0 0 2 -> 98
            asks 1 0 2 -> 99
            asks 2 0 3 -> 99
            rule "tolls cell-1"
            asks 0 0 2 -> 0
            asks 1 0 3 -> 0
            asks 2 0 2 -> 1
            rule "tolls 9 if cell = 4"
            asks 4 0 2 -> 9
            asks 5 0 2 -> 0
            boat 4 0
            sails 0 1 1 -> 9
            boat 3 0
            sails 1 1 1 -> 0
            sails 1 2 1 -> 9
            rule "flows 0-1; tolls 9 if cell = 4 and down = 0"
            sails 0 1 1 -> 9
            sails 1 1 1 -> 0
            rule "tolls 5; tolls 6; tolls 7 if cell = 9"
            asks 0 0 2 -> 6
            """);
        edge("It is BARRED to throw, if \"bars\" HOLDS.", """
            asks 0 0 1 -> 0
            rule "bars if cell = 3 and hour = 4"
            asks 3 4 1 -> 1
            asks 3 28 1 -> 1
            asks 3 5 1 -> 0
            asks 4 4 1 -> 0
            rule "bars if cell = 3; bars if cell = 5"
            asks 3 0 1 -> 1
            asks 4 0 1 -> 0
            asks 5 0 1 -> 1
            rule "bars"
            asks 0 0 1 -> 1
            asks 23 95 1 -> 1
            """);
    }

    private static void floating() {
        edge("What floats is in a CELL at the beginning of an HOUR", """
            where 7 9 9 -> 7
            where 7 9 10 -> 8
            below 7 9 0 -> 128
            sources 7 9 9 -> 128
            """);
        edge("goes STEP by STEP as many CELLS as FLOW there then tells (of the CELL in which it begins the HOUR)", """
            rule "flows cell"
            where 0 0 96 -> 0
            where 1 0 1 -> 2
            where 1 0 2 -> 4
            where 1 0 3 -> 8
            where 1 0 4 -> 14
            """);
        edge("down, to higher CELLS, if above 0, else up", """
            where 5 0 1 -> 6
            terms 0 0
            where 5 0 96 -> 5
            terms 0 -1
            where 5 0 1 -> 4
            """);
        edge("not through a GATE that is shut", """
            terms 0 3
            gate 6 0 0
            where 4 0 1 -> 6
            where 6 0 1 -> 6
            where 7 0 1 -> 10
            where 3 0 1 -> 6
            where 2 0 1 -> 5
            gate 5 0 0
            where 4 0 1 -> 5
            terms 0 -3
            where 7 0 1 -> 7
            where 9 0 1 -> 7
            where 10 0 1 -> 7
            where 11 0 1 -> 8
            where 6 0 1 -> 6
            where 5 0 1 -> 2
            """);
        edge("not above CELL 0", """
            terms 0 -3
            where 0 0 1 -> 0
            where 2 0 1 -> 0
            where 3 0 1 -> 0
            where 4 0 1 -> 1
            where 0 0 96 -> 0
            """);
        edge("from CELL 23 down it goes to the SEA and stays", """
            rule "flows 6; flows 0-6 if hour > 0"
            where 17 0 1 -> 23
            where 18 0 1 -> 24
            where 23 0 1 -> 24
            where 18 0 2 -> 24
            where 23 0 96 -> 24
            where 17 0 2 -> 17
            """);
        edge("Behind HOUR 95 it is at HOUR 96.", """
            where 0 95 95 -> 0
            where 0 95 96 -> 1
            where 0 95 97 -> -1
            where 23 95 96 -> 24
            """);
        edge("A BOAT floats from its HOUR on, but not in HOURS in which it is MOORED.", """
            boat 4 10
            sails 0 9 0 -> -1
            sails 0 10 0 -> 4
            sails 0 11 0 -> 5
            moor 0 0 10
            sails 0 11 0 -> 4
            sails 0 12 0 -> 5
            moor 0 12 12
            sails 0 12 0 -> 6
            sails 0 13 0 -> 6
            sails 0 14 0 -> 7
            moor 0 0 9
            sails 0 11 0 -> 5
            """);
        edge("Two MEET in the first HOUR (to 96) at whose beginning both are put in and in the same CELL (the SEA aside).", """
            terms 0 0
            boat 5 0
            boat 5 10
            meet 0 1 0 -> 10
            meet 1 0 0 -> 10
            meet 0 1 1 -> 5
            boat 6 0
            meet 0 2 0 -> -1
            new
            boat 22 0
            boat 23 0
            meet 0 1 0 -> -1
            moor 1 0 0
            meet 0 1 0 -> 1
            meet 0 1 1 -> 23
            meet 1 0 0 -> 1
            new
            rule "flows 0; flows 1 if hour = 23 and day = 3 and cell = 4"
            boat 4 0
            boat 5 95
            meet 0 1 0 -> 96
            meet 0 1 1 -> 5
            new
            rule "flows 0; flows 1 if hour = 23 and day = 3"
            boat 23 0
            boat 22 0
            meet 0 1 0 -> -1
            new
            boat 0 0
            boat 0 0
            meet 0 1 0 -> 0
            meet 0 1 1 -> 0
            """);
        edge("TOLL of a BOAT from HOUR to HOUR: all its crossings (the last one into the SEA, too).", """
            rule "tolls cell"
            boat 21 3
            sails 0 3 1 -> 0
            sails 0 4 1 -> 21
            sails 0 5 1 -> 43
            sails 0 6 1 -> 66
            sails 0 7 1 -> 66
            sails 0 95 1 -> 66
            boat 23 94
            sails 1 94 1 -> 0
            sails 1 95 1 -> 23
            rule "flows 5; tolls cell+down"
            sails 0 4 1 -> 69
            rule "flows 0-2; tolls cell+down"
            sails 0 4 1 -> 41
            """);
        edge("A MILL GRINDS in an HOUR as many times as FLOW at its CELL tells, either way (as if above 0).", """
            mill 0
            mill 23
            grinds 0 0 0 -> 1
            terms 0 -3
            grinds 0 0 0 -> 3
            grinds 1 0 95 -> 288
            terms 0 0
            grinds 0 0 95 -> 0
            rule "flows 0-9"
            grinds 0 5 6 -> 12
            """);
    }

    private static void colours() {
        edge("all amounts that are there by then (also in the HOUR of the POUR)", """
            pour 4 10 1 7
            pour 2 8 1 50
            pour 4 10 2 9
            dye 4 9 1 -> 0
            dye 4 10 1 -> 57
            dye 3 9 1 -> 50
            dye 5 11 1 -> 57
            dye 4 11 1 -> 0
            dye 24 29 1 -> 0
            dye 24 30 1 -> 57
            dye 24 96 1 -> 57
            pour 23 95 3 1
            dye 23 95 3 -> 1
            dye 23 96 3 -> 0
            dye 24 96 3 -> 1
            """);
        edge("A COLOUR COMES to a CELL in the first HOUR in which there is some.", """
            pour 4 10 1 7
            comes 4 1 0 -> 10
            comes 4 1 10 -> 10
            comes 4 1 11 -> -1
            comes 5 1 0 -> 11
            comes 3 1 0 -> -1
            comes 4 0 0 -> -1
            comes 24 1 0 -> 30
            comes 24 1 31 -> 31
            comes 24 1 96 -> 96
            pour 0 0 1 1
            comes 4 1 0 -> 4
            comes 4 1 5 -> 10
            pour 22 95 2 1
            comes 23 2 0 -> 96
            comes 23 2 96 -> 96
            comes 22 2 96 -> -1
            """);
        edge("DOWNSTREAM of a CELL from an HOUR within n HOURS 0 .. 96", """
            below 3 5 0 -> 8
            below 3 5 1 -> 24
            below 0 0 96 -> 0x1FFFFFF
            below 0 0 97 -> -1
            below 0 0 -1 -> -1
            below 0 95 96 -> 3
            below 0 95 1 -> 3
            """);
        edge("CELLS in which what floats from there is at the beginning of some of them (itself, too; the SEA as bit 24)", """
            below 22 0 1 -> 0xC00000
            below 22 0 2 -> 0x1C00000
            below 23 0 1 -> 0x1800000
            below 23 0 96 -> 0x1800000
            terms 0 3
            below 1 0 2 -> 146
            below 22 0 1 -> 0x1400000
            terms 0 0
            below 7 0 96 -> 128
            """);
        edge("SOURCES of a CELL at an HOUR, from an HOUR not behind that: CELLS from which what floats then is there.", """
            sources 5 5 5 -> 32
            sources 5 5 6 -> -1
            sources 5 5 4 -> 16
            sources 5 5 0 -> 1
            sources 5 6 0 -> 0
            sources 24 5 5 -> 0
            sources 24 6 5 -> 0x800000
            sources 24 95 0 -> 0xFFFFFF
            sources 23 95 95 -> 0x800000
            terms 0 -1
            sources 0 2 0 -> 7
            sources 23 1 0 -> 0
            """);
    }

    private static void throwing() {
        edge("A THROW to a CELL (the SEA: 24) in HOURS a .. b (0 .. 96), not ahead of an HOUR", """
            least 24 96 96 95 0 -> 1
            least 24 96 96 95 1 -> 23
            least 24 96 96 95 2 -> 95
            least 24 96 96 95 3 -> 96
            least 24 0 96 0 1 -> 23
            least 24 0 96 0 3 -> 1
            least 24 0 0 0 0 -> -1
            least 0 0 0 0 3 -> 0
            least 5 3 3 0 3 -> 3
            least 5 4 3 0 0 -> -1
            least 5 0 97 0 0 -> -1
            least 5 -1 96 0 0 -> -1
            least 25 0 96 0 0 -> -1
            least 5 0 96 7 2 -> 7
            least 5 0 6 7 0 -> -1
            least 5 0 7 7 2 -> 7
            """);
        edge("from a CELL in an HOUR 0 .. 95 in which it is not BARRED", """
            rule "flows 0; bars if hour < 23 or day < 3"
            least 5 0 96 0 2 -> 95
            least 5 0 96 0 3 -> 95
            least 5 0 94 0 0 -> -1
            least 5 96 96 95 3 -> 96
            least 5 96 96 96 0 -> -1
            rule "bars if cell = 5"
            least 5 0 96 0 1 -> 4
            least 5 0 96 0 3 -> 1
            rule "bars"
            least 5 0 96 0 0 -> -1
            rule "bars; costs 0"
            least 5 0 96 0 0 -> -1
            """);
        edge("so that it is there at the beginning of some of these (not ahead of its own)", """
            rule "flows 0"
            least 5 2 9 4 2 -> 4
            least 5 2 9 4 3 -> 4
            least 5 2 9 9 3 -> 9
            least 5 2 9 10 3 -> -1
            least 5 2 9 0 2 -> 0
            least 5 2 9 0 3 -> 2
            """);
        edge("the least COSTS; of alike ones the soonest there, then the first HOUR, then the lowest CELL", """
            rule "costs 9; costs 3 if cell = 2"
            least 5 0 96 0 0 -> 3
            least 5 0 96 0 1 -> 2
            least 5 0 96 0 2 -> 0
            least 5 0 96 0 3 -> 3
            rule "flows 0; flows 1 if cell=4 and hour=9; flows 0-1 if cell=6 and hour=3; bars if cell=5 or cell=6 and hour<2"
            least 5 0 96 0 1 -> 6
            least 5 0 96 0 2 -> 2
            least 5 0 96 0 3 -> 4
            rule "flows 0-1"
            least 5 2 9 0 1 -> 7
            least 5 2 9 0 2 -> 0
            least 5 2 9 0 3 -> 2
            rule "flows 0; flows 1 if cell = 4; flows 0-1 if cell = 6"
            least 5 1 1 0 1 -> 4
            least 5 1 1 0 2 -> 0
            least 5 1 1 1 1 -> 5
            rule "costs 0; costs 1 if cell < 5"
            least 5 2 2 0 0 -> 0
            least 5 2 2 0 1 -> 5
            least 5 2 2 0 2 -> 2
            rule "costs 999"
            least 5 0 96 0 0 -> 999
            """);
    }

    private static void sleuthing() {
        edge("SIGHTS, 10 at most: at a CELL 0 .. 23 at the beginning of an HOUR 0 .. 96 a COLOUR was seen (1) or not (0).", """
            sight 0 0 0 0 -> 1
            8 times sight 23 96 3 1 -> 9
            sight 5 5 2 1 -> 10
            sight 0 0 0 0 -> -5
            status -> -5
            count 6 -> 10
            forget
            sight 24 0 0 0 -> -1
            sight 0 97 0 0 -> -1
            sight 0 0 0 2 -> -1
            sight 0 0 0 -1 -> -1
            count 6 -> 0
            new
            terms 0 0
            9 times sight 5 10 0 1
            suspects 0 -1 -> 11
            sight 5 3 0 1 -> 10
            suspects 0 -1 -> 4
            suspects 0 3 -> 77
            forget
            9 times sight 5 10 0 1
            sight 6 2 0 1 -> 10
            suspects 0 -1 -> 0
            pairs 0 -> 33
            """);
        edge("POURS of it that could have been (any CELL, any HOUR 0 .. 95, BARRED or not; those told are not looked at)", """
            rule "bars; flows 0"
            suspects 0 -1 -> 2304
            suspects 0 0 -> 0
            suspects 0 2303 -> 2303
            suspects 0 2304 -> -1
            sight 23 96 0 1
            suspects 0 -1 -> 96
            suspects 0 0 -> 23
            suspects 0 95 -> 2303
            sight 0 95 1 1
            suspects 1 -1 -> 96
            suspects 1 95 -> 2280
            new
            pour 0 0 0 5
            sight 4 4 0 0
            suspects 0 -1 -> 2299
            sight 9 1 0 1
            suspects 0 -1 -> 2
            """);
        edge("each of which alone explains all its SIGHTS", """
            sight 4 2 0 1
            suspects 0 -1 -> 3
            sight 5 3 0 1
            suspects 0 -1 -> 3
            sight 3 1 0 1
            suspects 0 -1 -> 2
            sight 2 0 0 0
            suspects 0 -1 -> 1
            suspects 0 0 -> 27
            sight 9 9 1 1
            suspects 0 -1 -> 1
            sight 9 9 0 1
            suspects 0 -1 -> 0
            suspects 0 0 -> -1
            """);
        edge("in order of HOURS, then CELLS", """
            suspects 0 23 -> 23
            suspects 0 24 -> 24
            terms 0 -1
            sight 4 2 0 1
            suspects 0 0 -> 6
            suspects 0 1 -> 29
            suspects 0 2 -> 52
            forget
            sight 0 1 0 1
            suspects 0 -1 -> 3
            suspects 0 0 -> 0
            suspects 0 1 -> 1
            suspects 0 2 -> 24
            """);
        edge("PAIRS: two of unlike CELL or HOUR that together do (seen, if either is there).", """
            terms 0 0
            pairs 0 -> 2653056
            sight 5 0 0 1
            pairs 0 -> 2303
            sight 6 0 0 1
            pairs 0 -> 1
            sight 7 0 0 0
            pairs 0 -> 1
            sight 5 0 0 0
            pairs 0 -> 0
            pairs 1 -> 2653056
            forget
            sight 5 1 0 1
            pairs 0 -> 4605
            sight 5 1 0 1
            pairs 0 -> 4605
            sight 5 0 0 0
            pairs 0 -> 2302
            """);
    }

    private static void washing() {
        edge("JOBS, 6 at most: at a CELL so LONG 1 .. 6 HOURS, not ahead of an HOUR", """
            job 0 1 0 -> 1
            4 times job 23 6 95 -> 5
            job 5 3 3 -> 6
            job 0 1 0 -> -5
            status -> -5
            count 7 -> 6
            hang
            job 0 0 0 -> -1
            job 0 7 0 -> -1
            job 0 1 96 -> -1
            job 24 1 0 -> -1
            count 7 -> 0
            job 0 6 40
            laundry 0 -> 46
            laundry 8 -> 40
            """);
        edge("in each of its HOURS there must be no COLOUR in the CELL at its beginning", """
            terms 0 0
            pour 3 10 2 1
            job 3 4 6
            laundry 0 -> 10
            hang
            job 3 5 6
            laundry 0 -> -1
            hang
            job 4 5 6
            laundry 0 -> 11
            new
            pour 2 0 3 1
            job 4 2 1
            laundry 0 -> 5
            laundry 8 -> 3
            hang
            job 4 2 0
            laundry 0 -> 2
            hang
            job 4 1 2
            laundry 8 -> 3
            """);
        edge("one after another (there is one tub)", """
            job 0 2 0
            job 9 3 0
            laundry 0 -> 5
            laundry 9 -> 2
            """);
        edge("DONE is the soonest HOUR by which all can be", """
            job 5 1 3
            job 6 1 0
            laundry 0 -> 4
            laundry 1 -> 1
            laundry 2 -> 1
            laundry 3 -> 0
            laundry 8 -> 0
            laundry 9 -> 3
            """);
        edge("the ORDER: the first as a row of JOBS by which they are done so soon, each begun as soon as can be behind the one ahead", """
            job 0 6 0
            5 times job 0 1 0
            laundry 0 -> 11
            laundry 1 -> 720
            laundry 2 -> 0
            laundry 3 -> 1
            laundry 7 -> 5
            laundry 8 -> 0
            laundry 9 -> 6
            laundry 13 -> 10
            laundry 14 -> -1
            hang
            job 0 1 9
            job 0 2 0
            job 0 3 0
            laundry 0 -> 10
            laundry 1 -> 2
            laundry 2 -> 1
            laundry 3 -> 2
            laundry 4 -> 0
            laundry 8 -> 0
            laundry 9 -> 2
            laundry 10 -> 9
            laundry 5 -> -1
            laundry 11 -> -1
            """);
        edge("Without JOBS: HOUR 0.", """
            laundry 0 -> 0
            laundry 1 -> 1
            laundry 2 -> -1
            laundry 8 -> -1
            pour 0 0 0 1
            laundry 0 -> 0
            job 3 1 9
            laundry 0 -> 10
            hang
            laundry 0 -> 0
            """);
    }

    private static void meeting() {
        edge("the first throws in an HOUR t from a told one on, the other one, once it is there, in an HOUR then or later", """
            rule "flows 0; flows 1 if cell=0 and hour=3; flows 0-1 if cell=1 and hour=4"
            lovers 0 1 0 0 -> 5
            lovers 0 1 3 0 -> 5
            lovers 0 1 4 0 -> 29
            lovers 0 1 4 1 -> 27
            rule "flows 0; flows 1 if cell=0 and hour=3; flows 0-1 if cell=1 and hour=4; bars if cell=1 and hour=4 and day=0"
            lovers 0 1 0 0 -> 29
            lovers 0 1 0 1 -> 27
            rule "flows 0; flows 1 if cell=0 and hour=3; flows 0-1 if cell=1 and hour=9; bars if cell=1 and hour<9"
            lovers 0 1 0 0 -> 10
            """);
        edge("the soonest HOUR by which the answer is there (at the beginning); the latest t by which that is so", """
            rule "flows 0; flows 1 if cell=0 and hour=3; flows 0-1 if cell=1 and hour=9"
            lovers 0 1 0 0 -> 10
            lovers 0 1 0 1 -> 3
            lovers 1 0 0 0 -> 28
            lovers 1 0 0 1 -> 9
            new
            rule "flows 0; flows 1 if cell=0 and hour=0 and day=0; flows 0-1 if cell=1 and hour=23 and day=3; bars if cell=1 and (hour<23 or day<3)"
            lovers 0 1 0 0 -> 96
            lovers 0 1 0 1 -> 0
            lovers 0 1 1 0 -> -1
            rule "flows 0; flows 1 if cell=0 and hour=22 and day=3; flows 0-1 if cell=1 and hour=23 and day=3"
            lovers 0 1 0 0 -> 96
            lovers 0 1 0 1 -> 94
            lovers 0 1 94 1 -> 94
            lovers 0 1 95 0 -> -1
            rule "flows 0; flows 1 if cell=0 and hour=23 and day=3; flows 0-1 if cell=1"
            lovers 0 1 0 0 -> -1
            lovers 0 1 0 1 -> -1
            """);
        edge("(BARRED throws do not count; both at one CELL: the told HOUR.)", """
            rule "flows 0; flows 1 if cell=0 and hour=3; flows 0-1 if cell=1 and hour=9; bars if cell=0 and hour<4 and day=0"
            lovers 0 1 0 0 -> 34
            lovers 0 1 0 1 -> 27
            lovers 5 5 0 0 -> 0
            lovers 5 5 0 1 -> 0
            lovers 5 5 95 0 -> 95
            lovers 5 5 96 0 -> 96
            lovers 5 5 96 1 -> 96
            lovers 5 5 97 0 -> -1
            rule "bars"
            lovers 5 5 7 0 -> 7
            lovers 0 1 0 0 -> -1
            """);
        edge("by the HOURS of a told DAY 0 .. 3, again and again these", """
            rule "flows 0; flows 1 if day = 1 and hour = 0; flows 2 if day = 3 and hour = 23"
            duck 0 0 0 -> 1
            duck 0 1 0 -> 25
            duck 0 2 0 -> 1
            duck 0 3 0 -> 13
            duck 1 3 0 -> 13
            duck 2 3 0 -> 12
            duck 0 4 0 -> -1
            duck 0 -1 0 -> -1
            """);
        edge("behind how many DAYS it begins one in a CELL in which it began one ahead (SEA as a CELL), and how long the round is", """
            duck 0 0 0 -> 2
            duck 0 0 1 -> 1
            terms 0 0
            duck 0 0 0 -> 1
            duck 0 0 1 -> 1
            rule "flows 0; flows 1 if hour = 0 and day = 3"
            duck 0 3 0 -> 25
            duck 0 3 1 -> 1
            duck 23 3 0 -> 2
            duck 0 2 0 -> 1
            rule "flows 0; flows 1 if hour = 23; flows 0-6 if hour = 23 and cell = 6"
            duck 0 0 0 -> 7
            duck 0 0 1 -> 7
            duck 7 0 1 -> 1
            duck 7 0 0 -> 18
            rule "flows 0; flows 1 if hour = 0; flows 0-1 if hour = 0 and cell = 6"
            duck 0 0 0 -> 7
            duck 0 0 1 -> 2
            """);
    }

    private static void tuning() {
        edge("An HOUR 0 .. 95 MATTERS to what floats from a CELL from an HOUR till an HOUR", """
            rule "flows 0; flows 1 if strike = 1"
            matters 23 0 5 -1 -> 5
            matters 23 0 5 0 -> 0
            matters 23 0 5 4 -> 4
            matters 23 0 5 5 -> -1
            matters 23 0 95 -1 -> 95
            matters 23 0 95 94 -> 94
            matters 23 5 5 -1 -> 0
            matters 23 5 5 0 -> -1
            matters 23 5 4 -1 -> -1
            matters 23 94 95 0 -> 94
            """);
        edge("if with a STRIKE in it that there is not (or without one that there is) it ends in another CELL", """
            rule "flows 0; flows 1 if strike = 1 and hour = 2; flows 0-1 if strike = 0 and hour = 3; flows 0-6 if hour = 7"
            matters 5 0 5 -1 -> 2
            matters 5 0 5 0 -> 2
            matters 5 0 5 1 -> 3
            strike 2 3 1
            matters 5 0 5 -1 -> 2
            matters 5 0 8 -1 -> 0
            matters 0 3 8 -1 -> 0
            matters 5 0 7 1 -> 3
            count 1 -> 2
            """);
        edge("WISHES, 6 at most: what floats from a CELL from an HOUR shall be in a CELL (or the SEA) at an HOUR not ahead of that.", """
            wish 0 0 0 0 -> 1
            wish 23 95 23 95 -> 2
            wish 0 0 24 95 -> 3
            wish 5 5 6 5 -> 4
            wish 5 5 6 6 -> 5
            wish 5 6 6 5 -> -1
            wish 5 5 25 6 -> -1
            wish 23 94 24 95 -> 6
            wish 0 0 0 0 -> -5
            status -> -5
            count 8 -> 6
            granted -> 55
            """);
        edge("A PUMP's BEST: CLOCK c 0 .. 23 and 1 .. 6 CLOCKS on by which (its CELLS, STRONG as told) most WISHES are so", """
            pump 0 0 23 9 9 1
            wish 5 0 5 6
            best 0 0 -> 1
            best 0 1 -> 0
            best 0 2 -> 6
            drop
            wish 5 0 5 7
            best 0 0 -> 0
            drop
            wish 5 23 5 24
            best 0 0 -> 1
            best 0 1 -> 23
            best 0 2 -> 1
            pump 0 6 23 9 9 1
            best 0 0 -> 0
            pump 0 0 4 9 9 1
            best 0 0 -> 0
            pump 0 5 5 9 9 1
            best 0 0 -> 1
            pump 0 5 5 9 9 2
            best 0 0 -> 0
            pump 0 5 5 9 9 0
            best 0 0 -> 0
            new
            pump 0 0 23 0 0 1
            pump 1 0 23 0 0 2
            strike 0 0 1
            wish 5 0 6 1
            best 0 0 -> 1
            best 0 1 -> 0
            best 1 0 -> 1
            wish 5 1 4 2
            best 0 0 -> 2
            best 0 1 -> 0
            wish 5 1 3 2
            best 0 0 -> 2
            wish 8 1 6 2
            best 0 0 -> 3
            best 0 1 -> 1
            """);
        edge("of alike ones the shortest, then the first c", """
            pump 0 0 23 9 9 1
            best 0 0 -> 0
            best 0 1 -> 0
            best 0 2 -> 1
            wish 5 3 5 4
            wish 5 4 5 5
            best 0 0 -> 2
            best 0 1 -> 3
            best 0 2 -> 2
            drop
            wish 5 0 4 9
            best 0 0 -> 0
            best 0 1 -> 0
            best 0 2 -> 1
            drop
            wish 5 3 6 5
            best 0 1 -> 3
            best 0 2 -> 1
            """);
    }

    private static void papers() {
        edge("A WEEK with a SEED and a RATE 0 .. 100, on paper: s is the SEED (0 .. 1,000,000)", """
            pump 0 0 23 0 0 1
            strike 3 3 1
            week 0 0 -> 0
            drawn 0 -> 0
            drawn 23 -> 23
            week 1000000 100 -> 96
            drawn 0 -> 24
            week -1 50 -> -1
            week 1000001 50 -> -1
            week 0 -1 -> -1
            week 0 101 -> -1
            status -> -1
            drawn 0 -> 24
            count 1 -> 1
            where 5 0 96 -> 6
            """);
        edge("a DRAW of m: s becomes (s times 1103 and 12345) modulo 1,000,003, it is s modulo m", """
            rule "flows 0; flows 1 if strike = 1 and hour = 0 and day = 0"
            week 0 45
            drawn 0 -> 0
            week 0 46
            drawn 0 -> 1
            week 1000000 36
            drawn 0 -> 0
            week 1000000 37
            drawn 0 -> 1
            rule "flows 0; flows 1 if strike = 1 and hour = 1 and day = 0"
            week 0 41
            drawn 0 -> 0
            week 0 42
            drawn 0 -> 1
            """);
        edge("HOUR by HOUR 0 .. 95 a DRAW of 100: below RATE there is a STRIKE, else none.", """
            rule "flows 0; flows 1 if strike = 1 and hour = 23 and day = 3"
            week 5 100 -> 96
            drawn 0 -> 1
            week 5 0 -> 0
            drawn 0 -> 0
            strike 0 95 1
            week 5 0 -> 0
            drawn 0 -> 0
            """);
        edge("Where what floats from each CELL from HOUR 0 is at 96.", """
            rule "flows 0; flows 1 if cell < 23; flows 0-1 if cell = 23 and hour = 23 and day = 3"
            week 0 0
            drawn 0 -> 22
            drawn 23 -> 22
            rule "flows 0; flows 1 if hour = 23 and day = 3"
            drawn 23 -> 22
            week 0 0
            drawn 0 -> 1
            drawn 22 -> 23
            drawn 23 -> 24
            """);
        edge("A ROW of POURS: the TAPE's bytes by fours: CELL, HOUR, COLOUR, amount", """
            feed 0x175F0363 0x00000001 0x05060232 0 0
            end 12
            row -> 3
            dye 23 95 3 -> 99
            dye 0 0 0 -> 1
            dye 5 6 2 -> 50
            foam -> 0
            undo -> 2
            dye 5 6 2 -> 0
            """);
        edge("one that can't be (BARRED, too), one within which the TAPE ends, one for which there is no room is FOAM: none", """
            feed 0x18000001 0x00600001 0x00000401 0x00000000 0x00000064
            row -> 0
            foam -> 5
            feed 0xFF000001 0x00FF0001 0x0000FF01 0x000000FF 0x00000001
            row -> 1
            foam -> 4
            feed 0x00000001 0x00000001 0 0 0
            end 5
            row -> 1
            foam -> 1
            feed 0x00000001 0x00000001 0 0 0
            end 7
            row -> 1
            foam -> 1
            count 5 -> 3
            rule "bars if cell = 7 and hour = 8"
            feed 0x07080001 0x07070001 0x08080001 0 0
            end 12
            row -> 2
            foam -> 1
            dye 7 8 0 -> 0
            count 5 -> 5
            2 times feed 1 1 1 1 1
            row -> 10
            feed 1 0 1 0 1
            row -> 1
            foam -> 4
            count 5 -> 16
            feed 1 1 1 1 1
            row -> 0
            foam -> 5
            """);
        edge("IMAGES 0, 1 keep all but the TAPE, FAULT, FOAM, the latest WEEK", """
            image 0 -> 0
            image 1 -> 0
            image 2 -> -1
            image -1 -> -1
            tape "flow"
            law -> -6
            fault -> 0
            feed 1 0 0 0 0
            row -> 1
            foam -> 4
            week 0 0
            feed 7 7 7 7 7
            end 13
            back 0 -> 0
            count 5 -> 0
            count 9 -> 13
            fault -> 0
            foam -> 4
            drawn 0 -> 24
            """);
        edge("BACK to one all that it keeps is as it was then (IMAGES stay)", """
            pump 0 1 2 3 4 5
            image 0
            pump 0 0 23 0 0 6
            mill 3
            back 0 -> 0
            of 0 4 -> 5
            count 3 -> 0
            mill 4
            back 0 -> 0
            count 3 -> 0
            back 1 -> -2
            image 1
            gate 0 0 0
            image 0
            back 1
            count 2 -> 0
            back 0
            count 2 -> 1
            back 1
            count 2 -> 0
            """);
    }

    private static void images() {
        edge("BACK to one all that it keeps is as it was then", """
            pump 1 2 9 20 4 5
            strike 94 95 1
            terms 0 2
            terms 1 44
            gate 3 90 95
            7 times gate 23 0 95
            5 times mill 0
            mill 23
            5 times boat 0 0
            boat 7 80
            moor 5 81 82
            15 times pour 1 1 1 1
            pour 9 50 3 99
            9 times sight 5 5 0 0
            sight 9 50 3 1
            5 times job 0 1 0
            job 9 6 40
            5 times wish 0 0 0 0
            wish 9 50 9 50
            rule "tolls 3"
            rule "tolls 4"
            rule "flows 2; tolls year"
            force 2
            image 1 -> 0
            pump 1 0 23 0 0 0
            strike 0 95 0
            terms 0 -1
            terms 1 0
            8 times open 0
            16 times undo
            forget
            hang
            drop
            moor 5 0 95
            8 times gate 11 0 95
            5 times pour 22 22 2 22
            4 times sight 22 22 2 1
            3 times job 22 2 22
            2 times wish 22 22 22 22
            force 1
            back 1 -> 0
            of 1 0 -> 2
            of 1 3 -> 4
            of 1 4 -> 5
            count 1 -> 2
            count 2 -> 8
            count 3 -> 6
            count 4 -> 6
            count 5 -> 16
            count 6 -> 10
            count 7 -> 6
            count 8 -> 6
            count 15 -> 2
            where 3 90 91 -> 3
            where 10 0 90 -> 23
            where 23 0 96 -> 23
            grinds 5 0 0 -> 2
            sails 5 81 0 -> 9
            sails 5 83 0 -> 9
            sails 5 84 0 -> 11
            sails 5 81 1 -> 88
            dye 1 1 1 -> 15
            dye 9 50 3 -> 99
            dye 22 22 2 -> 0
            so 8 -> 1
            so 9 -> 1
            so 10 -> -1
            suspects 3 -1 -> 5
            laundry 0 -> 46
            granted -> 63
            terms 0 2 -> 2
            terms 1 44 -> 44
            force 1 -> 2
            asks 0 0 2 -> 4
            """);
    }

    public static void main(String[] args) throws IOException {
        runs = new Runs();
        river();
        pumps();
        things();
        refusals();
        texts();
        grammar();
        limits();
        asking();
        holding();
        floating();
        colours();
        throwing();
        sleuthing();
        washing();
        meeting();
        tuning();
        papers();
        images();
        runs.end();
    }
}
