/** Each sentence of "Terms" that names a boundary: what is least and most, what is empty, full, and what wraps around. */
public final class TermsTest {
    private static final String EIGHT_WRONG = "doing 6 1 1 0 10 99\n".repeat(8);

    public static void main(String[] args) {
        constants();
        doings();
        kinds();
        atFirst();
        texts();
        clauses();
        numbersAndBlanks();
        parts();
        within();
        faults();
        letters();
        postThatHolds();
        callAndFade();
        said();
        goesOver();
        weeks();
        calls();
        knownByStops();
        needlessOnes();
        ofs();
        Table.end();
    }

    private static void constants() {
        Table.stands("NONE = -1, BAD = -2, STATE = -3, FULL = -4");
        Table.due("NONE", NextOneKnows.NONE, -1);
        Table.due("BAD", NextOneKnows.BAD, -2);
        Table.due("STATE", NextOneKnows.STATE, -3);
        Table.due("FULL", NextOneKnows.FULL, -4);
        Table.stands("NO = Long.MIN_VALUE: There is no such number.");
        Table.due("NO", NextOneKnows.NO, Long.MIN_VALUE);
    }

    private static void doings() {
        Table.edge("DOINGS 0 .. 9, as they come", """
            doing 0 0 1 0 0 0 -> 0
            doing 6 9 60 59 99 99 -> 1
            7* doing 0 0 1 0 0 0 -> 8
            of 8 0 -> 0
            of 9 0 -> -10001
            doing 5 3 1 0 0 0 -> 9
            of 9 0 -> 5
            of 10 0 -> -10001
            of -1 0 -> -10001
            of MIN 0 -> -10001
            of MAX 0 -> -10001
            doing 0 0 1 0 0 0 -> -4
            count 0 -> 10
            """);
        Table.edge("(ROUND 1 .. 60, PLACE 0 .. ROUND less 1)", """
            doing 0 0 0 0 0 0 -> -2
            doing 0 0 0 -1 0 0 -> -2
            doing 0 0 -1 0 0 0 -> -2
            doing 0 0 61 0 0 0 -> -2
            doing 0 0 MIN 0 0 0 -> -2
            doing 0 0 MAX 0 0 0 -> -2
            doing 0 0 1 1 0 0 -> -2
            doing 0 0 1 -1 0 0 -> -2
            doing 0 0 60 60 0 0 -> -2
            doing 0 0 60 -1 0 0 -> -2
            doing 0 0 7 7 0 0 -> -2
            doing 0 0 7 MIN 0 0 -> -2
            doing 0 0 7 MAX 0 0 -> -2
            doing 0 0 61 60 0 0 -> -2
            count 0 -> 0
            doing 0 0 1 0 0 0 -> 0
            doing 0 0 60 59 0 0 -> 1
            doing 0 0 60 0 0 0 -> 2
            doing 0 0 7 6 0 0 -> 3
            of 0 2 -> 1
            of 0 3 -> 0
            of 1 2 -> 60
            of 1 3 -> 59
            of 3 3 -> 6
            """);
        Table.edge("each comes round in WEEKS that are PLACE modulo ROUND", """
            doing 6 1 60 59 1 99
            doing 6 1 1 0 1 99
            needless 1 1
            posted call 0
            run 59 1 -> 0
            run 60 1 -> 1
            run 119 1 -> 1
            run 120 1 -> 2
            needless 0 1
            needless 1 0
            run 1 1 -> 1
            run 200 1 -> 200
            """);
        Table.edge("a COST (0 .. 99), a NEED (0 .. 99)", """
            doing 0 0 1 0 -1 0 -> -2
            doing 0 0 1 0 100 0 -> -2
            doing 0 0 1 0 MIN 0 -> -2
            doing 0 0 1 0 MAX 0 -> -2
            doing 0 0 1 0 0 -1 -> -2
            doing 0 0 1 0 0 100 -> -2
            doing 0 0 1 0 0 MIN -> -2
            doing 0 0 1 0 0 MAX -> -2
            count 0 -> 0
            doing 0 0 1 0 0 99 -> 0
            doing 0 0 1 0 99 0 -> 1
            of 0 4 -> 0
            of 0 5 -> 99
            of 1 4 -> 99
            of 1 5 -> 0
            """);
    }

    private static void kinds() {
        Table.edge("0 KNOWING; 1 WRITTEN, 2 PLAIN, 3 RARE under KNOWING; 4 WHY under WRITTEN; 5 TIED under PLAIN; 6 WRONG under RARE", """
            doing -1 0 1 0 0 0 -> -1
            doing 7 0 1 0 0 0 -> -1
            doing MIN 0 1 0 0 0 -> -1
            doing MAX 0 1 0 0 0 -> -1
            count 0 -> 0
            doing 0 0 1 0 0 0 -> 0
            doing 1 0 1 0 0 0 -> 1
            doing 2 0 1 0 0 0 -> 2
            doing 3 0 1 0 0 0 -> 3
            doing 4 0 1 0 0 0 -> 4
            doing 5 0 1 0 0 0 -> 5
            doing 6 0 1 0 0 0 -> 6
            of 0 0 -> 0
            of 3 0 -> 3
            of 6 0 -> 6
            taken 6 6 -> 6
            taken 6 3 -> 6
            taken 6 0 -> 6
            taken 6 1 -> -12
            taken 5 2 -> 5
            taken 4 1 -> 4
            taken 4 2 -> -12
            taken 3 6 -> -12
            taken 0 0 -> 0
            taken 0 1 -> -12
            """);
        Table.edge("with a number v (0 .. 9)", """
            doing 0 -1 1 0 0 0 -> -2
            doing 0 10 1 0 0 0 -> -2
            doing 0 MIN 1 0 0 0 -> -2
            doing 0 MAX 1 0 0 0 -> -2
            count 0 -> 0
            doing 0 0 1 0 0 0 -> 0
            doing 0 9 1 0 0 0 -> 1
            of 0 1 -> 0
            of 1 1 -> 9
            """);
    }

    private static void atFirst() {
        Table.edge("NextOneKnows(): No DOINGS, no POST.", """
            count 0 -> 0
            count 1 -> 0
            count 2 -> 0
            count 3 -> 0
            of 0 0 -> -10001
            said 0 0 -> -1
            needless 0 1 -> -1
            learn 0 1 -> -1
            odds 0 5 -> -1
            when 0 -> -1
            told 0 -> 7
            told 1 -> 1
            hand -> 0
            go 60 -> 60
            told 3 -> 0
            told 4 -> 0
            undo -> -3
            """);
        Table.edge("is NEEDLESS or not (not at first)", "doing 0 0 1 0 0 0\nof 0 6 -> 0\nneedless 0 0 -> 0");
        Table.edge("HE KNOWS a DOING, or not (not at first)", "doing 0 0 1 0 0 0\nof 0 7 -> 0\ncount 5 -> 0\nlearn 0 0 -> 0");
        Table.edge("(told for each, 0 .. 10; 5 at first)", """
            9* doing 0 0 1 0 0 0
            odds 0 0
            doing 0 0 1 0 0 0 -> 9
            of 9 11 -> 5
            odds 9 -1 -> -2
            odds 9 11 -> -2
            odds 9 MIN -> -2
            odds 9 MAX -> -2
            of 9 11 -> 5
            odds 9 10 -> 5
            odds 9 0 -> 10
            odds 9 0 -> 0
            """);
        Table.edge("WAYS 0 .. 3 (pages, side by side, asked, cases): HOURS 0 .. 9 of each (0 at first)", """
            told 10 -> 0
            told 11 -> 0
            told 12 -> 0
            told 13 -> 0
            hours -1 1 -> -1
            hours 4 1 -> -1
            hours MIN 1 -> -1
            hours MAX 1 -> -1
            hours 0 -1 -> -2
            hours 3 10 -> -2
            hours 1 MIN -> -2
            hours 2 MAX -> -2
            told 10 -> 0
            hours 0 9 -> 0
            hours 3 9 -> 0
            told 10 -> 9
            told 11 -> 0
            told 12 -> 0
            told 13 -> 9
            hours 0 0 -> 9
            hours 0 1 -> 0
            """);
        Table.edge("WEEK: 0 at first. COSTS, STOPS, CALLS gone: 0 at first.",
                "told 2 -> 0\ntold 3 -> 0\ntold 4 -> 0\ntold 5 -> 0");
    }

    private static void texts() {
        String full = "text say 10 y<10" + "|y=1".repeat(21) + "|y=1";
        Table.edge("THE TEXT (bytes, 100 at most)", "count 3 -> 0\n" + full + " -> 99" + """

            feed 48 -> 100
            feed 48 -> -4
            count 3 -> 100
            post -> 0
            count 3 -> 0
            feed 48 -> 1
            doing 0 0 1 0 0 0
            said 0 0 -> 10
            """);
        Table.edge("A sign (0 .. 127)", """
            feed -1 -> -2
            feed 128 -> -2
            feed MIN -> -2
            feed MAX -> -2
            feed 256 -> -2
            count 3 -> 0
            feed 0 -> 1
            feed 127 -> 2
            """);
    }

    private static void clauses() {
        String words = "CLAUSES, 1 to 10, with ; between";
        Table.edge(words, """
            post -> -10
            posted ; -> -10
            posted call 1; -> -17
            posted call 1;; -> -17
            posted ;call 1 -> -10
            count 1 -> 0
            posted call 4 -> 0
            told 0 -> 4
            """);
        Table.edge(words, "posted " + "say 1 y=0;".repeat(9) + "say 1 y=0 -> 0\ndoing 0 0 1 0 0 0\nsaid 0 0 -> 10\nsaid 0 1 -> 0");
        Table.edge(words, "posted " + "call 1;".repeat(10) + "call 1 -> -79\ntold 0 -> 7");
        Table.edge(words, "posted " + "call 1;".repeat(10) + " -> -79");
        Table.edge(words, "posted " + "call 1;".repeat(9) + "fade 2 -> 0\ntold 0 -> 1\ntold 1 -> 2");
        Table.edge(words, "posted " + "call 1;".repeat(9) + "fade 2, -> -79");
    }

    private static void numbersAndBlanks() {
        Table.edge("(one blank ahead of each part behind the word; n 1 or 2 digits)", """
            doing 0 0 1 0 0 0
            posted say1 y=1 -> -13
            posted say  1 y=1 -> -14
            posted say 1y=1 -> -15
            posted say 1  y=1 -> -16
            posted say 1 y =1 -> -17
            posted say 1 y= 1 -> -18
            posted say 1 y=1 ;call 1 -> -19
            posted call 1 ;call 1 -> -16
            posted call 1; call 1 -> -17
            posted call3 -> -14
            posted call -> -14
            posted say 1 -> -15
            posted call x -> -15
            posted call -1 -> -15
            posted call 100 -> -17
            posted fade 000 -> -17
            posted say 100 y=0 -> -16
            posted cost 100 y=9 -> -17
            posted say 1 y=100 -> -20
            count 1 -> 0
            posted call 0;fade 9 -> 0
            told 0 -> 0
            told 1 -> 9
            posted call 99;fade 10 -> 1
            told 0 -> 99
            told 1 -> 10
            posted call 07;fade 00 -> 2
            told 0 -> 7
            told 1 -> 0
            posted say 0 y=0;say 99 y=01;cost 9 w=00;say 05 y=2 -> 3
            said 0 0 -> 0
            said 0 1 -> 99
            said 0 2 -> 5
            of 0 10 -> 9
            """);
        Table.edge("n 1 or 2 digits", """
            text call 1
            feed 32 -> 7
            post -> -16
            text call
            feed 32 -> 5
            post -> -15
            text say 1
            feed 32 -> 6
            post -> -16
            text say 1 y=1
            feed 32 -> 10
            post -> -19
            feed 32
            text call 1
            post -> -10
            """);
    }

    /** What is said to DOING 0 by WAY 1, if an E is told: 1 where it holds. */
    private static void holds(String either, int want) {
        Table.edge("E: T or T|E. T: F or F&T. F: !F, (E), or a TEST",
                "doing 4 7 30 20 55 66\nposted say 1 " + either + " -> 0\nsaid 0 1 -> " + want);
    }

    private static void parts() {
        String[] so = {"y=1", "y=1|y=2", "y=2|y=1", "y=2|y=3|y=1", "y=1&v=7", "y=1&v=7&k=4", "!y=2", "!!y=1", "(y=1)", "!(y=2)",
            "y=1|y=2&y=3", "y=2&y=3|y=1", "!y=2&y=1", "!(y=2&y=1)", "(y=2|y=1)&k=4", "y=2|!k=5&(v=6|v=7)", "!y=1|y=1"};
        String[] not = {"y=2", "y=2|y=3", "y=1&v=8", "y=2&v=7", "y=1&v=7&k=5", "!y=1", "!!y=2", "(y=2)", "!(y=1)",
            "(y=1|y=2)&y=3", "y=3&(y=2|y=1)", "!y=1&y=1", "!y=2&y=2", "!(y=2|y=1)", "!y=1|y=2"};
        for (String e : so) {
            holds(e, 1);
        }
        for (String e : not) {
            holds(e, 0);
        }
        Table.edge("a letter, < or = or >, a number (1 or 2 digits)", """
            posted say 1 x=1 -> -16
            posted say 1 Y=1 -> -16
            posted say 1 1=y -> -16
            posted say 1 =1 -> -16
            posted say 1 y1 -> -17
            posted say 1 y!1 -> -17
            posted say 1 y<=1 -> -18
            posted say 1 y=y -> -18
            posted say 1 y= -> -18
            posted say 1 y -> -17
            posted say 1 () -> -17
            posted say 1 (y=1 -> -20
            posted say 1 (y=1)) -> -21
            posted say 1 y=1) -> -19
            posted say 1 !-> -> -17
            posted say 1 y=1!y=1 -> -19
            posted say 1 y=1(y=1) -> -19
            posted say 1 &y=1 -> -16
            posted say 1 y=1& -> -20
            posted say 1 y=1&& -> -20
            posted say 1 y=1|| -> -20
            posted say 1 y=1|&y=1 -> -20
            count 1 -> 0
            """);
        String[] letters = {"i", "k", "r", "v", "c", "y", "w"};
        for (String letter : letters) {
            holds(letter + ">99", 0);
            holds(letter + "<00", 0);
            holds("!" + letter + "<0", 1);
        }
    }

    private static void within() {
        Table.edge("A ( or ! within 4 others is none.", """
            posted say 1 (((((y=1))))) -> -20
            posted say 1 !!!!!y=1 -> -20
            posted say 1 !(!(!y=1)) -> -20
            posted say 1 (!(!(y=1))) -> -20
            posted say 1 y=1&((((!y=1)))) -> -24
            posted say 1 ((y=1&((y=1|(y=1))))) -> -28
            posted say 1 !!(!!y=1&y=1) -> -20
            count 1 -> 0
            posted say 1 ((((y=1)))) -> 0
            posted say 2 !!!!y=1 -> 1
            posted say 3 !(!(y=1)) -> 2
            posted say 4 (((!y=0)))&((((y=1))))|!!!!y=2 -> 3
            posted say 5 !!(!y=0&!y=2) -> 4
            doing 0 0 1 0 0 0
            said 0 0 -> 0
            said 0 1 -> 5
            said 0 2 -> 0
            """);
    }

    private static void faults() {
        String words = "The FAULT: the place of the first byte with which none begins so (the end of THE TEXT, if it ends too early).";
        Table.edge(words, """
            post -> -10
            feed 0
            post -> -10
            feed 127
            post -> -10
            text call 1
            feed 0
            post -> -16
            text call 1
            feed 127
            post -> -16
            posted c -> -11
            posted cx -> -11
            posted ca -> -12
            posted cal -> -13
            posted cals -> -13
            posted co -> -12
            posted coll -> -12
            posted cost -> -14
            posted s -> -11
            posted sa -> -12
            posted say -> -13
            posted so -> -11
            posted f -> -11
            posted fall -> -12
            posted fade -> -14
            posted fade 1x -> -16
            posted fade 1 y=1 -> -16
            posted say 1 y=1;s -> -21
            posted say 1 y=1;x -> -20
            """);
        String long97 = "say 1 y=1" + "|y=1".repeat(22);
        Table.edge(words, "posted " + long97 + "|y= -> -110");
        Table.edge(words, "posted " + long97 + "|yy -> -109");
        Table.edge(words, "posted " + long97 + "|y -> -109");
        Table.edge(words, "posted " + long97 + "|x= -> -108");
        Table.edge(words, "posted " + long97 + "|y=1 -> -110\ncount 3 -> 0");
        Table.edge(words, "posted " + long97 + " -> 0");
        Table.edge(words, "posted " + long97 + "10 -> -108");
    }

    private static void letters() {
        Table.edge("of a DOING i its number, k the KIND of its KNOWING, r its ROUND, v that one's number, c its COST by 10 (cut)", """
            posted say 1 i=0;say 2 i=9;say 4 c=0;say 8 c=1;say 16 c=9;say 32 r=60;say 64 v=9;cost 1 c=9;cost 2 k=6
            doing 0 0 1 0 9 0
            doing 0 0 1 0 10 0
            doing 0 0 1 0 19 0
            doing 0 0 1 0 20 0
            doing 0 0 59 0 89 0
            doing 0 0 60 0 90 0
            doing 0 8 60 0 99 0
            doing 0 9 1 0 50 0
            doing 6 8 1 0 50 0
            doing 6 9 60 0 99 0
            said 0 0 -> 5
            said 1 0 -> 8
            said 2 0 -> 8
            said 3 0 -> 0
            said 4 0 -> 0
            said 5 0 -> 48
            said 6 0 -> 48
            said 7 0 -> 64
            said 8 0 -> 0
            said 9 0 -> 114
            of 6 10 -> 100
            of 8 10 -> 52
            of 9 10 -> 102
            """);
        Table.edge("y a WAY (of cost: 9), w the WEEK modulo 60 (of say: 0)", """
            posted say 1 y=0;say 2 y=3;say 4 y>3;say 8 w=0;say 16 w>0;cost 1 y=9;cost 2 y<9;cost 4 y>9
            doing 0 0 1 0 50 0
            said 0 0 -> 9
            said 0 1 -> 8
            said 0 3 -> 10
            of 0 10 -> 51
            go 1
            said 0 0 -> 9
            said 0 3 -> 10
            """);
        Table.edge("w the WEEK modulo 60", """
            posted cost 1 w=0;cost 2 w=59;cost 4 w=1;cost 8 w>59
            doing 0 0 1 0 50 0
            of 0 10 -> 51
            go 1
            of 0 10 -> 54
            go 57
            of 0 10 -> 50
            go 1
            of 0 10 -> 52
            go 1
            told 2 -> 60
            of 0 10 -> 51
            go 1
            of 0 10 -> 54
            go 58
            of 0 10 -> 52
            go 1
            told 2 -> 120
            of 0 10 -> 51
            """);
        Table.edge("w the WEEK modulo 60", """
            posted call 0;cost 1 w=59;cost 2 w=0
            doing 6 1 1 0 0 99
            run 1 0 -> 2
            run 59 0 -> 2
            run 60 0 -> 3
            run 61 0 -> 5
            run 120 0 -> 6
            run 121 0 -> 8
            """);
    }

    private static void postThatHolds() {
        Table.edge("The newest POST holds (6 at most); without one there are no CLAUSES.", """
            doing 0 0 1 0 30 5
            hours 0 9
            said 0 0 -> 0
            of 0 8 -> 0
            of 0 10 -> 30
            told 0 -> 7
            told 1 -> 1
            posted say 1 y=0;call 1;fade 3 -> 0
            said 0 0 -> 1
            told 0 -> 1
            told 1 -> 3
            posted say 2 y=0;cost 6 w=0 -> 1
            said 0 0 -> 2
            of 0 8 -> 18
            of 0 10 -> 36
            told 0 -> 7
            told 1 -> 1
            posted say 3 y=0 -> 2
            posted say 4 y=0 -> 3
            posted say 5 y=0 -> 4
            of 0 10 -> 30
            said 0 0 -> 5
            posted say 6 y=0 -> 5
            said 0 0 -> 6
            posted say 7 y=0 -> -4
            said 0 0 -> 6
            count 1 -> 6
            count 3 -> 9
            post -> -4
            count 3 -> 9
            """);
    }

    private static void callAndFade() {
        String words = "call (7 without), fade (1 without): the last one's n.";
        Table.edge(words, "posted call 3;fade 4;call 0;say 1 y=0;fade 0;call 12 -> 0\ntold 0 -> 12\ntold 1 -> 0");
        Table.edge(words, "posted say 1 y=0 -> 0\ntold 0 -> 7\ntold 1 -> 1");
        Table.edge(words, "posted fade 5 -> 0\ntold 0 -> 7\ntold 1 -> 5");
        Table.edge(words, "posted call 5 -> 0\ntold 0 -> 5\ntold 1 -> 1\nposted call 6;fade -> -21\ntold 0 -> 5");
    }

    private static void said() {
        Table.edge("SAID of a DOING by a WAY in an HOUR: the n of all say whose E holds, together.", """
            doing 0 0 1 0 0 0
            posted say 99 y=0;say 99 y=0;say 99 y<2;say 0 y=0;say 1 y=3 -> 0
            said 0 0 -> 297
            said 0 1 -> 99
            said 0 2 -> 0
            said 0 3 -> 1
            """);
        Table.edge("DEAR in a WEEK: COST, and the n of all cost whose E holds, together.", """
            doing 0 0 1 0 99 0
            doing 0 0 1 0 0 0
            posted cost 99 i=0;cost 99 i=0;cost 1 i=1;say 50 y<9 -> 0
            of 0 10 -> 297
            of 1 10 -> 1
            """);
        Table.edge("SAID of a DOING: over all WAYS HOURS times SAID by that one", """
            doing 0 9 1 0 0 99
            posted say 99 y<4;say 99 y<4 -> 0
            of 0 8 -> 0
            hours 0 9
            hours 1 9
            hours 2 9
            of 0 8 -> 5346
            hours 3 9
            of 0 8 -> 7128
            """);
        Table.edge("WRITTEN: and v times HOURS of pages more.", """
            doing 1 9 1 0 0 0
            doing 1 0 1 0 0 0
            hours 1 9
            of 0 8 -> 0
            hours 0 1
            of 0 8 -> 9
            hours 0 9
            of 0 8 -> 81
            of 1 8 -> 0
            """);
        Table.edge("PLAIN: but pages and side by side count nothing.", """
            doing 2 9 1 0 0 0
            posted say 5 y=0;say 7 y=1;say 1 y=2;say 2 y=3
            hours 0 9
            hours 1 9
            of 0 8 -> 0
            hours 2 1
            of 0 8 -> 1
            hours 3 1
            of 0 8 -> 3
            """);
        Table.edge("RARE: as KNOWING, but nothing at all, if no HOURS are of cases.", """
            doing 3 9 1 0 0 0
            posted say 5 y<3
            hours 0 2
            of 0 8 -> 0
            hours 3 1
            of 0 8 -> 10
            hours 3 0
            of 0 8 -> 0
            """);
        Table.edge("WHY: as WRITTEN, and v more, if HOURS of asked are above 0.", """
            doing 4 9 1 0 0 0
            of 0 8 -> 0
            hours 2 1
            of 0 8 -> 9
            hours 2 9
            of 0 8 -> 9
            hours 0 2
            of 0 8 -> 27
            """);
        Table.edge("TIED: as PLAIN, and twice v times HOURS of side by side more.", """
            doing 5 9 1 0 0 0
            posted say 5 y<4
            hours 0 9
            of 0 8 -> 0
            hours 1 1
            of 0 8 -> 18
            hours 1 9
            of 0 8 -> 162
            hours 3 1
            of 0 8 -> 167
            """);
        Table.edge("WRONG: as RARE, less v.", """
            doing 6 9 1 0 0 0
            posted say 5 y<4
            of 0 8 -> -9
            hours 0 9
            of 0 8 -> -9
            hours 3 1
            of 0 8 -> 41
            """);
    }

    private static void goesOver() {
        Table.edge("It GOES OVER, if SAID is NEED or more.", """
            doing 0 0 1 0 0 0
            doing 6 1 1 0 0 0
            doing 6 0 1 0 0 0
            doing 0 0 1 0 0 9
            doing 0 0 1 0 0 10
            doing 0 0 1 0 0 11
            of 0 9 -> 1
            of 1 9 -> 0
            of 2 9 -> 1
            of 3 9 -> 0
            posted say 10 y=0
            hours 0 1
            of 3 9 -> 1
            of 4 9 -> 1
            of 5 9 -> 0
            hand -> 4
            of 1 7 -> 0
            of 4 7 -> 1
            of 5 7 -> 0
            """);
        Table.edge("By HAND OVER HE KNOWS, besides what he KNOWS, all that GOES OVER.", """
            hand -> 0
            doing 0 0 1 0 0 99
            doing 0 0 1 0 0 0
            hand -> 1
            hand -> 0
            learn 0 1
            learn 1 0
            needless 1 1
            hand -> 1
            of 0 7 -> 1
            of 1 7 -> 1
            count 5 -> 2
            8* doing 0 0 1 0 0 0
            hand -> 8
            count 5 -> 10
            """);
    }

    private static void weeks() {
        Table.edge("each DOING that comes round in it and that is not NEEDLESS, by numbers: if HE KNOWS it, nothing; else it STOPS: a STOP more", """
            doing 6 1 2 1 10 99
            doing 6 1 2 0 20 99
            doing 6 1 2 0 40 99
            doing 6 1 2 0 80 99
            learn 2 1
            needless 3 1
            posted call 0
            run 1 0 -> 20
            run 1 1 -> 1
            run 1 4 -> 0
            run 1 5 -> 1
            run 2 0 -> 30
            go 1 -> 1
            told 3 -> 20
            told 4 -> 1
            told 5 -> 0
            of 2 7 -> 1
            of 3 7 -> 0
            """);
        Table.edge("by numbers", """
            doing 6 1 1 0 10 99
            doing 6 1 1 0 20 99
            doing 6 1 1 0 40 99
            posted call 1;fade 0
            run 1 0 -> 61
            run 1 5 -> 0
            learn 0 1
            run 1 0 -> 41
            run 1 5 -> 1
            needless 1 1
            run 1 0 -> 1
            run 1 5 -> 2
            """);
        Table.edge("Then WEEK is 1 more.", "go 1 -> 1\ntold 2 -> 1\ngo 60 -> 61\ntold 2 -> 61");
    }

    private static void calls() {
        String words = "if CALLS of this WEEK are fewer than call less fade times WEEK, it is a CALL (one more in this WEEK)";
        Table.edge(words, EIGHT_WRONG + """
            go 1
            told 3 -> 17
            told 4 -> 8
            told 5 -> 7
            go 5
            told 5 -> 27
            told 3 -> 237
            go 1
            told 5 -> 28
            told 3 -> 308
            go 1
            told 5 -> 28
            told 3 -> 388
            told 4 -> 64
            go 60
            told 5 -> 28
            """);
        Table.edge(words, EIGHT_WRONG + "posted call 0;fade 0\ngo 2\ntold 3 -> 160\ntold 5 -> 0");
        Table.edge(words, EIGHT_WRONG + "posted call 8;fade 0\ngo 2\ntold 3 -> 16\ntold 5 -> 16");
        Table.edge(words, EIGHT_WRONG + "posted call 99;fade 99\ngo 2\ntold 3 -> 88\ntold 5 -> 8\nrun 200 2 -> 0");
        Table.edge(words, EIGHT_WRONG + "posted call 99;fade 49\ngo 3\ntold 3 -> 87\ntold 5 -> 17\ngo 1\ntold 5 -> 17");
        Table.edge("he KNOWS it then (WRONG: he does not), and it costs 1", """
            doing 0 0 1 0 99 99
            doing 3 9 1 0 99 99
            doing 2 0 1 0 99 99
            doing 6 0 1 0 99 99
            go 1
            told 3 -> 4
            of 0 7 -> 1
            of 1 7 -> 1
            of 2 7 -> 1
            of 3 7 -> 0
            """);
    }

    private static void knownByStops() {
        String words = "he KNOWS it then, if it is RARE (or under it) and v is 0, or PLAIN (or under it) and v is above 4";
        Table.edge(words, """
            posted call 0
            doing 3 0 1 0 10 99
            doing 3 1 1 0 10 99
            doing 6 0 1 0 10 99
            doing 6 1 1 0 10 99
            doing 2 4 1 0 10 99
            doing 2 5 1 0 10 99
            doing 5 4 1 0 10 99
            doing 5 5 1 0 10 99
            go 1
            told 3 -> 80
            told 4 -> 8
            of 0 7 -> 1
            of 1 7 -> 0
            of 2 7 -> 1
            of 3 7 -> 0
            of 4 7 -> 0
            of 5 7 -> 1
            of 6 7 -> 0
            of 7 7 -> 1
            """);
        Table.edge(words, """
            posted call 0
            doing 0 0 1 0 10 99
            doing 0 9 1 0 10 99
            doing 1 0 1 0 10 99
            doing 1 9 1 0 10 99
            doing 4 0 1 0 10 99
            doing 4 9 1 0 10 99
            doing 3 9 1 0 10 99
            doing 6 9 1 0 10 99
            doing 2 0 1 0 10 99
            doing 5 0 1 0 10 99
            go 1
            count 5 -> 0
            """);
        Table.edge("else COSTS are DEAR more", """
            posted call 0;cost 99 w=0;cost 99 w=1
            doing 3 0 1 0 1 99
            doing 0 0 1 0 0 99
            go 1
            told 3 -> 199
            go 1
            told 3 -> 298
            go 1
            told 3 -> 298
            told 4 -> 4
            """);
    }

    private static void ofs() {
        Table.edge("9 whether it GOES OVER, 10 DEAR in this WEEK, 11 odds. -10001: NONE.", """
            of 0 0 -> -10001
            doing 5 4 3 2 1 0
            of 0 0 -> 5
            of 0 11 -> 5
            of 0 -1 -> -10001
            of 0 12 -> -10001
            of 0 MIN -> -10001
            of 0 MAX -> -10001
            of 1 0 -> -10001
            of 1 12 -> -10001
            of -1 11 -> -10001
            """);
        Table.edge("SAID of a DOING by a WAY in an HOUR. NONE.", """
            doing 0 0 1 0 0 0
            said 0 -1 -> -1
            said 0 4 -> -1
            said 0 MIN -> -1
            said 0 MAX -> -1
            said 1 0 -> -1
            said -1 3 -> -1
            said 0 0 -> 0
            said 0 3 -> 0
            """);
        Table.edge("A DOING is NEEDLESS, or not: 1 if it was, 0. NONE.", """
            10* doing 0 0 1 0 0 0
            needless 9 1 -> 0
            needless 9 1 -> 1
            needless 9 0 -> 1
            needless 9 0 -> 0
            needless 0 1 -> 0
            of 9 6 -> 0
            needless 10 1 -> -1
            needless -1 1 -> -1
            needless MAX 1 -> -1
            needless MIN 1 -> -1
            """);
        Table.edge("HE KNOWS a DOING, or not: 1 if he did, 0. NONE.", """
            10* doing 0 0 1 0 0 0
            learn 9 1 -> 0
            learn 9 1 -> 1
            count 5 -> 1
            learn 9 0 -> 1
            learn 9 0 -> 0
            learn 0 1 -> 0
            of 9 7 -> 0
            learn 10 1 -> -1
            learn -1 1 -> -1
            learn MAX 1 -> -1
            learn MIN 1 -> -1
            count 5 -> 1
            """);
    }

    private static void needlessOnes() {
        Table.edge("NEEDLESS ones that come round, and that HE KNOWS, cost 1.", """
            doing 0 0 2 0 50 99
            doing 0 0 2 0 50 99
            doing 0 0 2 1 50 99
            needless 0 1
            needless 1 1
            needless 2 1
            learn 0 1
            learn 2 1
            posted call 0
            go 1
            told 3 -> 1
            told 4 -> 0
            told 5 -> 0
            of 1 7 -> 0
            go 1
            told 3 -> 2
            run 200 0 -> 200
            """);
        Table.edge("NEEDLESS ones that come round, and that HE KNOWS, cost 1.", """
            doing 0 0 1 0 50 99
            doing 6 1 1 0 50 99
            needless 0 1
            learn 0 1
            posted call 1;fade 0
            go 1
            told 3 -> 2
            told 5 -> 1
            """);
    }
}
