import java.io.IOException;

/**
 * The document's promises 1 to 53: what each says of boundary cases, word for word, and a run of calls of its own, worked
 * out by hand. Runs tells how a row is written; TermsTests has the Terms.
 */
public final class EdgeTests {
    private static Runs runs;

    private static void edge(String sentence, String rows) {
        runs.edge(sentence, rows);
    }

    private static void river() {
        edge("`NONE = -1`: There is none.", """
            count 15 -> -1
            drawn 0 -> -1
            fault -> -1
            comes 0 0 0 -> -1
            """);
        edge("`NOTHING = -1000`: What is not there, where it could be below 0.", """
            flow 24 0 -> -1000
            terms 9 0 -> -1000
            """);
        edge("`NineRiver()`: A RIVER that flows one CELL an HOUR.", """
            flow 0 0 -> 1
            flow 23 95 -> 1
            where 0 0 1 -> 1
            where 0 0 96 -> 24
            count 0 -> 0
            count 1 -> 0
            count 2 -> 0
            count 3 -> 0
            count 4 -> 0
            count 5 -> 0
            count 6 -> 0
            count 7 -> 0
            count 8 -> 0
            count 9 -> 0
            count 10 -> 0
            count 11 -> 0
            count 12 -> 0
            count 13 -> 0
            count 14 -> 0
            count 15 -> -1
            status -> 0
            """);
        edge("An object is used for at most 512 calls after it has been made", """
            250 times pump 0 0 23 0 0 1 -> 0
            250 times pump 2 0 23 0 0 1 -> -2
            count 11 -> 250
            flow 0 0 -> 0
            mill 5 -> 0
            grinds 0 0 95 -> 0
            pour 3 3 3 3 -> 0
            dye 3 96 3 -> 3
            pairs 0 -> 2653056
            image 1 -> 0
            back 1 -> 0
            set 0 -> 0
            count 5 -> 1
            status -> 0
            """);
        edge("A PUMP (0, 1) is told anew: 0. -1; -2.", """
            pump 0 1 2 3 4 5 -> 0
            pump 0 6 7 8 9 1 -> 0
            of 0 0 -> 6
            of 0 1 -> 7
            of 0 2 -> 8
            of 0 3 -> 9
            of 0 4 -> 1
            of 1 4 -> 0
            pump 0 0 0 0 0 7 -> -1
            pump 2 0 0 0 0 6 -> -2
            pump MIN 0 0 0 0 6 -> -2
            of 0 0 -> 6
            of 0 4 -> 1
            flow 6 8 -> 0
            """);
        edge("Of a PUMP a (what 0), b (1), c (2), d (3), STRONG (4). NONE.", """
            pump 1 2 9 20 4 5
            of 1 0 -> 2
            of 1 1 -> 9
            of 1 2 -> 20
            of 1 3 -> 4
            of 1 4 -> 5
            of 1 5 -> -1
            of 1 -1 -> -1
            of 2 0 -> -1
            of -1 0 -> -1
            status -> 0
            """);
        edge("HOURS from .. till are a STRIKE (1), are none (0): how many were otherwise.", """
            strike 10 20 1 -> 11
            strike 10 20 1 -> 0
            strike 9 21 1 -> 2
            strike 15 15 0 -> 1
            strike 15 15 0 -> 0
            count 1 -> 12
            strike 0 95 1 -> 84
            strike 0 95 0 -> 96
            strike 0 0 1 -> 1
            strike 95 95 1 -> 1
            count 1 -> 2
            """);
        edge("-1 (till ahead of from, too).", """
            strike 5 4 1 -> -1
            strike 95 0 1 -> -1
            strike 0 96 1 -> -1
            strike 5 5 -1 -> -1
            strike 5 5 2 -> -1
            count 1 -> 0
            boat 0 0
            moor 0 5 4 -> -1
            moor 0 95 0 -> -1
            sails 0 9 0 -> 9
            """);
        edge("A GATE: its number. -1 (till ahead of from, too); -5.", """
            gate 3 5 5 -> 0
            gate 3 5 4 -> -1
            gate 3 0 96 -> -1
            gate 3 -1 0 -> -1
            count 2 -> 1
            7 times gate 3 5 5 -> 7
            gate 3 5 5 -> -5
            gate 3 5 4 -> -1
            count 2 -> 8
            where 3 5 6 -> 3
            where 3 6 7 -> 4
            """);
        edge("A GATE goes, those behind it move up: how many are left. -2.", """
            gate 1 0 95
            gate 5 0 95
            gate 9 0 95
            open 3 -> -2
            open -1 -> -2
            open 0 -> 2
            where 0 0 90 -> 5
            where 6 0 90 -> 9
            open 2 -> -2
            open 1 -> 1
            where 6 0 10 -> 16
            where 0 0 90 -> 5
            open 0 -> 0
            where 0 0 90 -> 24
            open 0 -> -2
            gate 7 0 95 -> 0
            """);
        edge("A MILL: its number. -1; -5.", """
            mill 23 -> 0
            mill 24 -> -1
            mill -1 -> -1
            5 times mill 0 -> 5
            mill 0 -> -5
            mill 24 -> -1
            count 3 -> 6
            """);
        edge("How often a MILL GRINDS in HOURS from .. till. NONE.", """
            pump 0 0 23 9 12 3
            mill 4
            grinds 0 8 12 -> 8
            grinds 0 9 9 -> 2
            grinds 0 8 8 -> 1
            grinds 0 95 95 -> 1
            grinds 0 0 0 -> 1
            grinds 0 0 95 -> 108
            grinds 0 9 8 -> -1
            grinds 0 0 96 -> -1
            grinds 0 -1 5 -> -1
            grinds 1 0 0 -> -1
            grinds -1 0 0 -> -1
            gate 4 0 95
            grinds 0 8 12 -> 8
            status -> 0
            """);
        edge("A TERM: what it was (NOTHING if it is REFUSED). -1.", """
            terms 0 0 -> 1
            terms 0 0 -> 0
            terms 0 -1 -> 0
            terms 0 1 -> -1
            status -> 0
            terms 0 4 -> -1000
            status -> -1
            terms 1 100 -> -1000
            terms 2 1 -> -1000
            terms -1 1 -> -1000
            count 10 -> 4
            terms 0 1 -> 1
            terms 1 1 -> 0
            status -> 0
            """);
    }

    private static void tape() {
        edge("Twenty bytes come behind the TAPE, four of each number, the highest first: how many it has.", """
            feed 0x666C6F77 0x73202020 0x20202020 0x20202020 0x20202020 -> 20
            feed 0x20202020 0x20202020 0x20202020 0x20202020 0x20202035 -> 40
            law -> 0
            force 0
            flow 0 0 -> 5
            feed 0x666C6F77 0x73202020 0x20202020 0x20202020 0x202020FF -> 20
            law -> -6
            fault -> 19
            """);
        edge("NONE, if there would be more than 400.", """
            19 times feed 0 0 0 0 0 -> 380
            feed 0 0 0 0 0 -> 400
            feed 0 0 0 0 0 -> -1
            count 9 -> 400
            end 381 -> 381
            feed 0 0 0 0 0 -> -1
            count 9 -> 381
            end 380 -> 380
            feed 0 0 0 0 0 -> 400
            status -> 0
            """);
        edge("The TAPE has its first n bytes alone: n. NONE, if it has not so many, or n is below 0.", """
            end 0 -> 0
            end 1 -> -1
            end -1 -> -1
            feed 0x62617273 0x62617273 0 0 0 -> 20
            end 21 -> -1
            end 20 -> 20
            end MIN -> -1
            end MAX -> -1
            count 9 -> 20
            end 4 -> 4
            end 5 -> -1
            count 9 -> 4
            law -> 0
            status -> 0
            """);
        edge("A ROW of POURS, the TAPE is empty then: how many came. -6 the TAPE is empty.", """
            row -> -6
            status -> -6
            feed 1 1 1 1 1
            row -> 5
            status -> 0
            count 9 -> 0
            row -> -6
            feed 0 0 0 0 0
            row -> 0
            status -> 0
            count 9 -> 0
            feed 1 1 1 1 1
            end 0
            row -> -6
            count 14 -> 3
            count 5 -> 5
            """);
        edge("How many were FOAM in the latest row() that was not REFUSED (0 ahead of any).", """
            foam -> 0
            row -> -6
            foam -> 0
            feed 1 0 0 0 1
            row -> 2
            foam -> 3
            row -> -6
            foam -> 3
            feed 1 1 1 1 1
            row -> 5
            foam -> 0
            """);
        edge("The TAPE, which is empty then, becomes a LAW: its number.", """
            tape "bars"
            law -> 0
            count 9 -> 0
            tape "flow"
            law -> -6
            count 9 -> 0
            tape "bars"
            law -> 1
            count 0 -> 2
            """);
        edge("-5 (ahead of reading it; the TAPE is empty then, too)", """
            rule "flows 1"
            rule "flows 1"
            rule "flows 1"
            rule "flows 1"
            rule "flows 1"
            tape "x"
            law -> -6
            fault -> 0
            tape "flows 2"
            law -> 5
            fault -> -1
            tape "flows"
            law -> -5
            fault -> -1
            count 9 -> 0
            law -> -5
            fault -> -1
            count 0 -> 6
            count 13 -> 2
            count 14 -> 1
            """);
        edge("-6 (blanks alone: FAULT at the end)", """
            tape "     "
            law -> -6
            fault -> 5
            tape " "
            law -> -6
            fault -> 1
            law -> -6
            fault -> 0
            count 14 -> 3
            status -> -6
            """);
        edge("FAULT of the latest law() that read a TEXT: its place; NONE without.", """
            fault -> -1
            tape "flows )"
            fault -> -1
            law -> -6
            fault -> 6
            tape "flows 1"
            fault -> 6
            law -> 0
            fault -> -1
            tape "bars if"
            law -> -6
            fault -> 7
            row -> -6
            fault -> 7
            """);
        edge("A LAW is in FORCE (NONE: none): which was. -2.", """
            force 0 -> -2
            force -1 -> -1
            status -> 0
            tape "flows 3"
            law -> 0
            tape "flows 5"
            law -> 1
            force 1 -> -1
            flow 0 0 -> 5
            force 0 -> 1
            flow 0 0 -> 3
            force 0 -> 0
            force 2 -> -2
            status -> -2
            force -2 -> -2
            force MIN -> -2
            force MAX -> -2
            count 15 -> 0
            flow 0 0 -> 3
            force -1 -> 0
            status -> 0
            flow 0 0 -> 1
            """);
    }

    private static void asking() {
        edge("FLOW of a CELL in an HOUR. NOTHING.", """
            flow 0 0 -> 1
            flow 23 95 -> 1
            flow 24 0 -> -1000
            flow -1 0 -> -1000
            flow 0 96 -> -1000
            flow 0 -1 -> -1000
            flow MAX MAX -> -1000
            flow MIN MIN -> -1000
            rule "flows 0-1"
            flow 0 0 -> -1
            status -> 0
            """);
        edge("What a throw COSTS (what 0), whether it is BARRED (1: 1, 0), what is TOLLED down (2), up (3). NONE.", """
            asks 0 0 0 -> 1
            asks 0 0 1 -> 0
            asks 0 0 2 -> 0
            asks 0 0 3 -> 0
            asks 0 0 4 -> -1
            asks 0 0 -1 -> -1
            asks 24 0 0 -> -1
            asks -1 0 0 -> -1
            asks 0 96 0 -> -1
            asks 0 -1 0 -> -1
            rule "costs 0; bars if cell = 23; tolls 10+down"
            asks 23 95 0 -> 0
            asks 23 95 1 -> 1
            asks 22 95 1 -> 0
            asks 23 95 2 -> 11
            asks 0 0 3 -> 10
            """);
        edge("Where what floats from a CELL at an HOUR is at an HOUR (to 96, not ahead of that). NONE.", """
            where 5 7 7 -> 5
            where 5 7 6 -> -1
            where 5 7 8 -> 6
            where 5 0 96 -> 24
            where 5 95 96 -> 6
            where 5 0 97 -> -1
            where 5 96 96 -> -1
            where 5 -1 0 -> -1
            where 24 0 0 -> -1
            where -1 0 0 -> -1
            """);
        edge("DOWNSTREAM, as bits. NONE.", """
            below 0 0 0 -> 1
            below 0 0 3 -> 15
            below 23 95 0 -> 0x800000
            below 23 95 96 -> 0x1800000
            below 0 0 97 -> -1
            below 0 0 -1 -> -1
            below 0 96 0 -> -1
            below 0 -1 0 -> -1
            below 24 0 0 -> -1
            below -1 0 0 -> -1
            """);
        edge("SOURCES (cell 24: the SEA), as bits. NONE.", """
            sources 24 1 0 -> 0x800000
            sources 24 0 0 -> 0
            sources 25 1 0 -> -1
            sources -1 1 0 -> -1
            sources 5 95 95 -> 32
            sources 5 94 95 -> -1
            sources 5 5 -1 -> -1
            sources 5 96 0 -> -1
            sources 0 1 0 -> 0
            terms 0 0
            sources 23 95 0 -> 0x800000
            """);
        edge("A BOAT: its number. -1; -5.", """
            boat 23 95 -> 0
            boat 24 0 -> -1
            boat -1 0 -> -1
            boat 0 96 -> -1
            boat 0 -1 -> -1
            5 times boat 0 0 -> 5
            boat 0 0 -> -5
            boat 24 0 -> -1
            count 4 -> 6
            """);
        edge("A BOAT is MOORED in HOURS from .. till (in place of others): 0.", """
            boat 0 0
            moor 0 1 2 -> 0
            sails 0 4 0 -> 2
            moor 0 5 6 -> 0
            sails 0 4 0 -> 4
            sails 0 7 0 -> 5
            moor 0 95 95 -> 0
            sails 0 7 0 -> 7
            moor 0 0 95 -> 0
            sails 0 95 0 -> 0
            """);
        edge("-1 (till ahead of from, too); -2.", """
            boat 0 0
            moor 0 5 6 -> 0
            moor 0 5 4 -> -1
            moor 0 -1 4 -> -1
            moor 0 5 96 -> -1
            moor 1 5 5 -> -2
            moor -1 5 5 -> -2
            moor 1 5 4 -> -1
            status -> -1
            sails 0 7 0 -> 5
            """);
        edge("Where a BOAT is at an HOUR (what 0), its TOLL till then from the HOUR in which it was put in (1). NONE (ahead of that, too).", """
            rule "tolls 7"
            boat 20 10
            sails 0 10 0 -> 20
            sails 0 10 1 -> 0
            sails 0 9 0 -> -1
            sails 0 9 1 -> -1
            sails 0 11 1 -> 7
            sails 0 14 0 -> 24
            sails 0 14 1 -> 28
            sails 0 95 1 -> 28
            sails 0 96 0 -> -1
            sails 0 11 2 -> -1
            sails 0 11 -1 -> -1
            sails 1 11 0 -> -1
            sails -1 11 0 -> -1
            moor 0 11 12
            sails 0 13 1 -> 7
            sails 0 14 1 -> 14
            """);
        edge("When two BOATS MEET (what 0), where (1). NONE (never, the same one).", """
            boat 3 0
            boat 5 2
            boat 5 0
            meet 0 1 0 -> 2
            meet 0 1 1 -> 5
            meet 0 0 0 -> -1
            meet 0 0 1 -> -1
            meet 0 2 0 -> -1
            meet 0 2 1 -> -1
            meet 0 3 0 -> -1
            meet 3 0 0 -> -1
            meet -1 0 0 -> -1
            meet 0 -1 0 -> -1
            meet 0 1 2 -> -1
            meet 0 1 -1 -> -1
            """);
    }

    private static void colours() {
        edge("A POUR: its number. -1; -3 BARRED; -5.", """
            pour 0 0 0 1 -> 0
            pour 23 95 3 99 -> 1
            rule "bars if cell = 7"
            pour 7 0 0 1 -> -3
            status -> -3
            pour 7 0 0 0 -> -1
            status -> -1
            14 times pour 8 0 0 1 -> 15
            pour 8 0 0 1 -> -5
            status -> -5
            pour 7 0 0 1 -> -3
            pour 8 0 4 1 -> -1
            count 5 -> 16
            dye 7 0 0 -> 0
            """);
        edge("The latest POUR is undone: how many are left. -3 there is none.", """
            undo -> -3
            pour 0 0 0 1
            pour 1 0 0 1
            pour 2 0 0 1
            undo -> 2
            dye 2 0 0 -> 0
            dye 1 0 0 -> 1
            undo -> 1
            undo -> 0
            dye 0 0 0 -> 0
            undo -> -3
            status -> -3
            pour 5 0 0 1 -> 0
            undo -> 0
            status -> 0
            feed 1 1 0 0 0
            row -> 2
            undo -> 1
            """);
        edge("How much of a COLOUR is in a CELL (24: the SEA) at the beginning of an HOUR (to 96). NONE.", """
            pour 22 95 1 5
            dye 22 95 1 -> 5
            dye 23 96 1 -> 5
            dye 24 96 1 -> 0
            dye 23 97 1 -> -1
            dye 25 96 1 -> -1
            dye -1 96 1 -> -1
            dye 23 -1 1 -> -1
            dye 23 96 4 -> -1
            dye 23 96 -1 -> -1
            dye 23 96 0 -> 0
            pour 23 95 1 7
            dye 24 96 1 -> 7
            15 times pour 0 0 2 99
            dye 24 96 2 -> 1386
            """);
        edge("In which HOUR a COLOUR COMES to a CELL (the SEA, too), not ahead of an HOUR (to 96). NONE.", """
            pour 23 95 1 5
            comes 23 1 0 -> 95
            comes 23 1 95 -> 95
            comes 23 1 96 -> -1
            comes 24 1 0 -> 96
            comes 24 1 96 -> 96
            comes 24 1 97 -> -1
            comes 24 1 -1 -> -1
            comes 25 1 0 -> -1
            comes -1 1 0 -> -1
            comes 24 4 0 -> -1
            comes 24 -1 0 -> -1
            comes 24 0 0 -> -1
            """);
        edge("At an HOUR the CELL with the most of a COLOUR, the lowest (what 0; NONE: none), how many CELLS have some (1).", """
            most 0 0 0 -> -1
            most 0 0 1 -> 0
            pour 23 0 0 5
            most 0 0 0 -> 23
            pour 9 0 0 5
            most 0 0 0 -> 9
            pour 0 0 0 5
            most 0 0 0 -> 0
            most 0 0 1 -> 3
            pour 9 0 0 1
            most 0 0 0 -> 9
            most 0 0 1 -> 3
            most 0 1 0 -> -1
            most 96 0 0 -> -1
            most -1 0 0 -> -1
            most 0 4 1 -> -1
            most 0 0 2 -> -1
            most 0 0 -1 -> -1
            """);
        edge("The SEA aside. NONE.", """
            pour 23 0 0 99
            pour 3 0 0 1
            most 0 0 0 -> 23
            most 1 0 0 -> 4
            most 1 0 1 -> 1
            most 95 0 0 -> -1
            most 95 0 1 -> 0
            """);
        edge("COSTS (what 0), from CELL (1), in HOUR (2), there in HOUR (3). NONE (a above b, too; none comes).", """
            least 5 3 3 2 0 -> 1
            least 5 3 3 2 1 -> 4
            least 5 3 3 2 2 -> 2
            least 5 3 3 2 3 -> 3
            least 5 3 3 2 4 -> -1
            least 5 3 3 2 -1 -> -1
            least 5 3 2 0 0 -> -1
            least 5 3 2 0 1 -> -1
            least 5 3 2 0 2 -> -1
            least 5 3 2 0 3 -> -1
            least 5 3 3 4 0 -> -1
            least 5 3 3 4 1 -> -1
            least 5 3 3 4 2 -> -1
            least 5 3 3 4 3 -> -1
            """);
    }

    private static void sleuthing() {
        edge("A SIGHT: how many there are. -1; -5.", """
            sight 23 96 3 1 -> 1
            sight 24 96 3 1 -> -1
            sight 23 97 3 1 -> -1
            sight 23 96 4 1 -> -1
            sight 23 96 3 2 -> -1
            9 times sight 0 0 0 0 -> 10
            sight 0 0 0 0 -> -5
            sight 0 0 0 2 -> -1
            count 6 -> 10
            """);
        edge("SIGHTS are none then: how many there were.", """
            forget -> 0
            sight 0 0 0 1
            sight 0 0 1 1
            suspects 0 -1 -> 1
            undo
            forget -> 2
            status -> -3
            suspects 0 -1 -> 2304
            so 0 -> -1
            forget -> 0
            10 times sight 0 0 0 1 -> 10
            forget -> 10
            """);
        edge("Whether SIGHT i is so by POURS as told: 1, 0. NONE.", """
            so 0 -> -1
            pour 22 95 1 1
            sight 23 96 1 1
            sight 23 96 1 0
            sight 23 96 0 0
            sight 22 96 1 1
            so 0 -> 1
            so 1 -> 0
            so 2 -> 1
            so 3 -> 0
            so 4 -> -1
            so -1 -> -1
            undo
            so 0 -> 0
            so 1 -> 1
            """);
        edge("SUSPECTS of a COLOUR: how many (i NONE), the i-th as HOUR times 24 and CELL. NONE.", """
            sight 4 2 3 1
            suspects 3 -1 -> 3
            suspects 3 0 -> 2
            suspects 3 1 -> 27
            suspects 3 2 -> 52
            suspects 3 3 -> -1
            suspects 3 -2 -> -1
            suspects 3 MAX -> -1
            suspects 3 MIN -> -1
            suspects 4 -1 -> -1
            suspects -1 -1 -> -1
            suspects 0 2303 -> 2303
            suspects 0 2304 -> -1
            """);
        edge("PAIRS of a COLOUR. NONE.", """
            pairs 0 -> 2653056
            pairs 3 -> 2653056
            pairs 4 -> -1
            pairs -1 -> -1
            10 times sight 4 2 3 1
            pairs 3 -> 6906
            sight 0 0 0 0
            pairs 3 -> 6906
            """);
        edge("A JOB: how many there are. -1; -5.", """
            job 23 6 95 -> 1
            job 24 6 95 -> -1
            job 23 7 95 -> -1
            job 23 0 95 -> -1
            job 23 6 96 -> -1
            5 times job 0 1 0 -> 6
            job 0 1 0 -> -5
            job 0 0 0 -> -1
            count 7 -> 6
            """);
        edge("JOBS are none then: how many there were.", """
            hang -> 0
            6 times job 0 1 0
            laundry 0 -> 6
            undo
            hang -> 6
            status -> -3
            laundry 0 -> 0
            hang -> 0
            count 7 -> 0
            """);
        edge("LAUNDRY: DONE (what 0), in how many ORDERS so soon (1; 0), the i-th JOB of the ORDER (2 + i), when it begins (8 + i).", """
            job 0 2 0
            job 0 1 0
            laundry 0 -> 3
            laundry 1 -> 2
            laundry 2 -> 0
            laundry 3 -> 1
            laundry 4 -> -1
            laundry 7 -> -1
            laundry 8 -> 0
            laundry 9 -> 2
            laundry 10 -> -1
            laundry 13 -> -1
            laundry 14 -> -1
            laundry -1 -> -1
            """);
        edge("NONE (not by HOUR 96, but for 1; no such place).", """
            job 0 6 90
            laundry 0 -> 96
            laundry 1 -> 1
            laundry 8 -> 90
            job 0 1 90
            laundry 0 -> -1
            laundry 1 -> 0
            laundry 2 -> -1
            laundry 3 -> -1
            laundry 8 -> -1
            laundry 9 -> -1
            hang
            job 0 6 91
            laundry 0 -> -1
            laundry 1 -> 0
            hang
            job 0 1 95
            laundry 0 -> 96
            hang
            job 0 2 95
            laundry 0 -> -1
            """);
        edge("LOVERS from an HOUR (to 96) on: the HOUR of the answer (what 0), the latest t (1). NONE (not by 96).", """
            lovers 3 5 0 0 -> -1
            lovers 3 5 0 1 -> -1
            pump 0 0 23 12 0 2
            lovers 3 5 0 0 -> 14
            lovers 3 5 0 1 -> 10
            lovers 3 5 82 0 -> 86
            lovers 3 5 83 0 -> -1
            lovers 3 5 96 0 -> -1
            lovers 3 3 96 0 -> 96
            lovers 3 3 97 0 -> -1
            lovers 3 3 -1 0 -> -1
            lovers 24 24 0 0 -> -1
            lovers 24 3 0 0 -> -1
            lovers 3 24 0 0 -> -1
            lovers -1 3 0 0 -> -1
            lovers 3 5 0 2 -> -1
            lovers 3 3 0 -1 -> -1
            """);
    }

    private static void wishing() {
        edge("A DUCK by the HOURS of a DAY: DAYS (what 0), the round (1). NONE.", """
            duck 23 3 0 -> 2
            duck 23 3 1 -> 1
            duck 0 4 0 -> -1
            duck 0 -1 0 -> -1
            duck 24 0 0 -> -1
            duck -1 0 0 -> -1
            duck 0 0 2 -> -1
            duck 0 0 -1 -> -1
            """);
        edge("HOURS that MATTER: how many (i NONE), the i-th. NONE.", """
            pump 0 0 23 9 12 3
            matters 10 8 13 -1 -> 3
            matters 10 8 13 0 -> 9
            matters 10 8 13 2 -> 11
            matters 10 8 13 3 -> -1
            matters 10 8 13 -2 -> -1
            matters 10 9 9 -1 -> 0
            matters 10 9 10 -1 -> 1
            matters 10 9 8 -1 -> -1
            matters 10 0 96 -1 -> -1
            matters 10 -1 5 -1 -> -1
            matters 24 0 5 -1 -> -1
            matters 10 0 8 -1 -> 0
            """);
        edge("A WISH: how many there are. -1 (the HOUR at which ahead of the other, too); -5.", """
            wish 0 0 0 0 -> 1
            wish 23 95 24 95 -> 2
            wish 0 1 0 0 -> -1
            wish 0 95 0 94 -> -1
            wish 0 0 25 0 -> -1
            wish 24 0 0 0 -> -1
            wish 0 0 0 96 -> -1
            4 times wish 0 0 0 0 -> 6
            wish 0 0 0 0 -> -5
            wish 0 1 0 0 -> -1
            count 8 -> 6
            """);
        edge("WISHES are none then: how many there were.", """
            drop -> 0
            6 times wish 0 0 0 0
            granted -> 63
            undo
            drop -> 6
            status -> -3
            granted -> 0
            drop -> 0
            """);
        edge("WISHES that are so, as bits.", """
            granted -> 0
            wish 0 0 1 1
            wish 0 0 0 1
            wish 23 94 24 95
            wish 5 5 5 5
            wish 5 5 6 5
            wish 0 0 24 95
            granted -> 45
            terms 0 0
            granted -> 10
            """);
        edge("A PUMP's BEST: how many WISHES (what 0), CLOCK c (1), how many CLOCKS (2). NONE.", """
            best 0 0 -> 0
            best 0 1 -> 0
            best 0 2 -> 1
            best 1 0 -> 0
            best 0 3 -> -1
            best 0 -1 -> -1
            best 2 0 -> -1
            best -1 0 -> -1
            pump 1 0 23 5 6 1
            wish 5 23 5 26
            best 1 0 -> 1
            best 1 1 -> 23
            best 1 2 -> 3
            best 0 0 -> 0
            of 1 2 -> 5
            of 1 3 -> 6
            """);
        edge("A PUMP gets its BEST CLOCKS: how many WISHES are so. -2.", """
            set 2 -> -2
            set -1 -> -2
            set 0 -> 0
            of 0 2 -> 0
            of 0 3 -> 1
            pump 1 2 22 5 6 1
            wish 5 23 5 26
            wish 5 0 8 1
            set 1 -> 1
            of 1 0 -> 2
            of 1 1 -> 22
            of 1 2 -> 23
            of 1 3 -> 2
            of 1 4 -> 1
            granted -> 1
            drop
            wish 5 22 5 24
            set 1 -> 1
            of 1 2 -> 22
            of 1 3 -> 0
            flow 5 23 -> 0
            flow 5 24 -> 1
            status -> 0
            """);
        edge("A WEEK, kept as the latest: how many STRIKES. -1.", """
            pump 0 0 23 0 0 1
            week 0 100 -> 96
            drawn 0 -> 24
            week 0 0 -> 0
            drawn 0 -> 0
            week 0 101 -> -1
            week 1000001 0 -> -1
            drawn 0 -> 0
            count 1 -> 0
            """);
        edge("Where what floats from a CELL is behind the latest WEEK. NONE.", """
            drawn 0 -> -1
            week 0 101 -> -1
            drawn 0 -> -1
            terms 0 0
            week 5 50
            drawn 0 -> 0
            drawn 23 -> 23
            drawn 24 -> -1
            drawn -1 -> -1
            terms 0 1
            drawn 0 -> 0
            """);
    }

    private static void keeping() {
        edge("IMAGE k is kept: 0; -1.", """
            image 0 -> 0
            image 1 -> 0
            image 2 -> -1
            image -1 -> -1
            status -> -1
            mill 0
            image 0 -> 0
            mill 0
            back 0
            count 3 -> 1
            """);
        edge("BACK to IMAGE k: 0. -1; -2 it was not kept.", """
            back 0 -> -2
            back 1 -> -2
            back 2 -> -1
            back -1 -> -1
            image 1
            back 0 -> -2
            status -> -2
            back 1 -> 0
            status -> 0
            """);
        edge("10 .. 14 how many calls were REFUSED by -1, -2, -3, -5, -6 (IMAGES do not keep that)", """
            image 0
            mill 24
            back 0
            count 10 -> 1
            open 0
            moor 0 0 0
            count 11 -> 2
            3 times undo
            count 12 -> 3
            10 times mill 0
            count 13 -> 4
            5 times row
            count 14 -> 5
            terms 9 9
            count 10 -> 2
            back 0
            count 10 -> 2
            count 11 -> 2
            count 12 -> 3
            count 13 -> 4
            count 14 -> 5
            of 9 9
            flow 99 99
            end -1
            so 5
            drawn 99
            count 99
            count 10 -> 2
            """);
        edge("0 LAWS, 1 STRIKES, 2 GATES, 3 MILLS, 4 BOATS, 5 POURS, 6 SIGHTS, 7 JOBS, 8 WISHES, 9 bytes of the TAPE", """
            tape "bars if 1=2"
            law
            2 times strike 0 1 1
            3 times gate 0 0 0
            4 times mill 0
            5 times boat 0 0
            6 times pour 0 0 0 1
            7 times sight 0 0 0 0
            5 times job 0 1 0
            6 times wish 0 0 0 0
            2 times feed 0 0 0 0 0
            count 0 -> 1
            count 1 -> 2
            count 2 -> 3
            count 3 -> 4
            count 4 -> 5
            count 5 -> 6
            count 6 -> 7
            count 7 -> 5
            count 8 -> 6
            count 9 -> 40
            """);
        edge("15 the LAW in FORCE. NONE for others.", """
            count 15 -> -1
            rule "bars"
            count 15 -> 0
            rule "bars"
            count 15 -> 1
            count 16 -> -1
            count -1 -> -1
            count MAX -> -1
            count MIN -> -1
            """);
        edge("was REFUSED by; 0 if it was not, or ahead of any.", """
            status -> 0
            undo -> -3
            status -> -3
            feed 0 0 0 0 0
            end 99
            end 0
            of 9 9
            best 9 9
            forget
            hang
            drop
            drawn 0
            so 0
            count 12
            status -> -3
            mill 0
            status -> 0
            """);
    }

    /** Each call of promise 53's list: a refusal is told by status(), and the next call that is not refused takes it away. */
    private static void statuses() {
        String list = "What the latest call of pump, strike, gate, open, mill, terms, row, law, force, boat, moor, pour, undo, sight, job, wish, "
            + "set, week, image, back was REFUSED by";
        String[] refused = {"pump 2 0 0 0 0 0 -> -2", "strike 1 0 0 -> -1", "gate 24 0 0 -> -1", "open 9 -> -2", "mill 24 -> -1", "terms 0 9 -> -1000",
            "row -> -6", "law -> -6", "force 9 -> -2", "boat 24 0 -> -1", "moor 9 0 0 -> -2", "pour 0 0 0 0 -> -1", "undo -> -3", "sight 24 0 0 0 -> -1",
            "job 24 1 0 -> -1", "wish 24 0 0 0 -> -1", "set 2 -> -2", "week -1 0 -> -1", "image 2 -> -1", "back 1 -> -2"};
        String[] taken = {"pump 0 0 0 0 0 0", "strike 0 0 0", "gate 0 0 0", "open 0", "mill 0", "terms 0 1", "row", "law", "force -1", "boat 0 0",
            "moor 0 0 0", "pour 0 0 0 1", "undo", "sight 0 0 0 0", "job 0 1 0", "wish 0 0 0 0", "set 0", "week 0 0", "image 0", "back 0"};
        for (int i = 0; i < taken.length; i++) {
            int by = refused[i].endsWith("-1000") ? -1 : Integer.parseInt(refused[i].substring(refused[i].lastIndexOf(' ') + 1));
            edge(list, refused[i] + "\nstatus -> " + by);
            String ahead = "gate 0 0 0\nboat 0 0\npour 0 0 0 1\nimage 0\n" + (taken[i].equals("law") ? "tape \"bars\"\n" : "feed 1 1 1 1 1\n");
            edge(list, ahead + "mill -1 -> -1\nstatus -> -1\n" + taken[i] + "\nstatus -> 0");
        }
    }

    public static void main(String[] args) throws IOException {
        runs = new Runs();
        river();
        tape();
        asking();
        colours();
        sleuthing();
        wishing();
        keeping();
        statuses();
        runs.end();
    }
}
