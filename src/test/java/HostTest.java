/** Acts, THE TRACE, THE IMAGE, what is JUDGED and TAPES, at their bounds. */
public final class HostTest {
    public static void main(String[] args) {
        actsWrap();
        traces();
        taken();
        images();
        imageOfNothing();
        judged();
        judgedAtEnds();
        tapes();
        items();
        reads();
        shifts();
        shiftsOfLongs();
        counts();
        Table.end();
    }

    /** Reckoned apart, each number taken modulo two to the thirty-second. */
    private static void actsWrap() {
        Table.edge("ACTS of a DOING's KNOWING with x (wrapping)", """
            doing 0 9 1 0 0 0
            doing 1 8 1 0 0 0
            doing 2 7 1 0 0 0
            doing 3 6 1 0 0 0
            doing 4 5 1 0 0 0
            doing 5 4 1 0 0 0
            doing 6 3 1 0 0 0
            act 0 0 MAX -> 2147483647
            act 0 0 MIN -> -2147483648
            act 0 0 715827883 -> 715827883
            act 0 0 -715827883 -> -715827883
            act 0 0 -1 -> -1
            act 0 1 MAX -> 2147483638
            act 0 1 MIN -> 2147483639
            act 0 1 715827883 -> 715827874
            act 0 1 -715827883 -> -715827892
            act 0 1 -1 -> -10
            act 0 2 MAX -> -20
            act 0 2 MIN -> -18
            act 0 2 715827883 -> 1431655748
            act 0 2 -715827883 -> -1431655784
            act 0 2 -1 -> -20
            act 1 0 MAX -> -2147483648
            act 1 0 MIN -> -2147483647
            act 1 0 715827883 -> 715827884
            act 1 0 -715827883 -> -715827882
            act 1 0 -1 -> 0
            act 1 1 MAX -> 2147483646
            act 1 1 MIN -> 2147483647
            act 1 1 715827883 -> 715827874
            act 1 1 -715827883 -> -715827896
            act 1 1 -1 -> -2
            act 1 2 MAX -> -4
            act 1 2 MIN -> -2
            act 1 2 715827883 -> 1431655748
            act 1 2 -715827883 -> -1431655792
            act 1 2 -1 -> -4
            act 2 0 MAX -> 2147483647
            act 2 0 MIN -> -2147483646
            act 2 0 715827883 -> -2147483645
            act 2 0 -715827883 -> -2147483647
            act 2 0 -1 -> -1
            act 2 1 MAX -> 2147483640
            act 2 1 MIN -> 2147483643
            act 2 1 715827883 -> 2147483644
            act 2 1 -715827883 -> 2147483642
            act 2 1 -1 -> -8
            act 2 2 MAX -> -16
            act 2 2 MIN -> -10
            act 2 2 715827883 -> -8
            act 2 2 -715827883 -> -12
            act 2 2 -1 -> -16
            act 3 0 MAX -> -2147483646
            act 3 0 MIN -> -2147483645
            act 3 0 715827883 -> 715827886
            act 3 0 -715827883 -> -715827880
            act 3 0 -1 -> 2
            act 3 1 MAX -> 2147483644
            act 3 1 MIN -> 2147483645
            act 3 1 715827883 -> 715827880
            act 3 1 -715827883 -> -715827886
            act 3 1 -1 -> -4
            act 3 2 MAX -> -10
            act 3 2 MIN -> -8
            act 3 2 715827883 -> 1431655758
            act 3 2 -715827883 -> -1431655774
            act 3 2 -1 -> -10
            act 4 0 MAX -> 2147483645
            act 4 0 MIN -> 2147483644
            act 4 0 715827883 -> -715827887
            act 4 0 -715827883 -> 715827879
            act 4 0 -1 -> -3
            act 4 1 MAX -> 2147483633
            act 4 1 MIN -> 2147483632
            act 4 1 715827883 -> -715827891
            act 4 1 -715827883 -> 715827879
            act 4 1 -1 -> -15
            act 4 2 MAX -> -30
            act 4 2 MIN -> -32
            act 4 2 715827883 -> -1431655782
            act 4 2 -715827883 -> 1431655758
            act 4 2 -1 -> -30
            act 5 0 MAX -> -2147483646
            act 5 0 MIN -> -2147483643
            act 5 0 715827883 -> -2147483642
            act 5 0 -715827883 -> -2147483644
            act 5 0 -1 -> 2
            act 5 1 MAX -> 2147483646
            act 5 1 MIN -> -2147483647
            act 5 1 715827883 -> -2147483646
            act 5 1 -715827883 -> -2147483648
            act 5 1 -1 -> -2
            act 5 2 MAX -> -34
            act 5 2 MIN -> -28
            act 5 2 715827883 -> -26
            act 5 2 -715827883 -> -30
            act 5 2 -1 -> -34
            act 6 0 MAX -> -2147483642
            act 6 0 MIN -> -2147483643
            act 6 0 715827883 -> 715827890
            act 6 0 -715827883 -> -715827880
            act 6 0 -1 -> 6
            act 6 1 MAX -> -2147483637
            act 6 1 MIN -> -2147483638
            act 6 1 715827883 -> 715827895
            act 6 1 -715827883 -> -715827875
            act 6 1 -1 -> 11
            act 6 2 MAX -> 31
            act 6 2 MIN -> 29
            act 6 2 715827883 -> 1431655799
            act 6 2 -715827883 -> -1431655741
            act 6 2 -1 -> 31
            """);
        Table.edge("WHY: 50 says: -super.says(x).", """
            doing 4 0 1 0 0 0
            doing 4 9 1 0 0 0
            act 0 0 MIN -> MIN
            act 1 0 MAX -> MIN
            act 0 0 0 -> 0
            act 0 1 MAX -> -2147483642
            """);
    }

    private static void traces() {
        Table.edge("the numbers of the bodies that ran in the latest act(), as they began; the first 20 are kept", """
            trace 0 -> -1
            count 4 -> 0
            doing 6 3 1 0 0 0
            doing 0 0 1 0 0 0
            trace 0 -> -1
            act 0 2 5
            count 4 -> 12
            trace 0 -> 40
            trace 1 -> 12
            trace 2 -> 70
            trace 3 -> 11
            trace 4 -> 71
            trace 5 -> 10
            trace 6 -> 10
            trace 7 -> 70
            trace 8 -> 11
            trace 9 -> 71
            trace 10 -> 10
            trace 11 -> 10
            trace 12 -> -1
            trace 19 -> -1
            trace 20 -> -1
            trace -1 -> -1
            trace MIN -> -1
            trace MAX -> -1
            act 1 0 5 -> 6
            count 4 -> 1
            trace 0 -> 10
            trace 1 -> -1
            """);
        Table.edge("0, and no TRACE then: no such DOING, act.", """
            act 0 0 1 -> 0
            doing 0 0 1 0 0 0
            act 0 0 7 -> 7
            act 0 3 7 -> 0
            count 4 -> 0
            trace 0 -> -1
            act 0 1 7 -> 7
            count 4 -> 2
            act 0 -1 7 -> 0
            count 4 -> 0
            trace 0 -> -1
            act 0 2 7 -> 14
            act 1 0 7 -> 0
            count 4 -> 0
            trace 0 -> -1
            act 0 0 7 -> 7
            act -1 0 7 -> 0
            count 4 -> 0
            act 0 0 7 -> 7
            act MIN 0 7 -> 0
            act MAX 2 7 -> 0
            act 0 MIN 7 -> 0
            act 0 MAX 7 -> 0
            count 4 -> 0
            """);
    }

    private static void taken() {
        Table.edge("A DOING's KNOWING taken for one of KIND k (0 .. 6), or one under that: its KIND. BAD: k; NOTHING: no such DOING; CAST.", """
            taken 0 0 -> -11
            taken 0 -1 -> -2
            taken 0 7 -> -2
            doing 3 0 1 0 0 0
            taken 0 0 -> 3
            taken 0 3 -> 3
            taken 0 6 -> -12
            taken 0 2 -> -12
            taken 0 -1 -> -2
            taken 0 7 -> -2
            taken 0 MIN -> -2
            taken 0 MAX -> -2
            taken 1 6 -> -11
            taken -1 0 -> -11
            taken MIN 3 -> -11
            taken MAX 3 -> -11
            taken 1 7 -> -2
            taken -1 -1 -> -2
            """);
    }

    private static void images() {
        Table.edge("THE IMAGE: DOINGS with all that is theirs (what HE KNOWS, odds, too), HOURS, WEEK, COSTS, STOPS, CALLS, the LIST, which POST holds.", """
            undo -> -3
            posted say 1 y=0;call 1 -> 0
            doing 6 1 1 0 20 99
            doing 6 1 1 0 30 99
            learn 1 1
            needless 1 1
            odds 0 2
            hours 1 3
            list 1 0
            go 1
            image -> 2
            doing 0 0 1 0 5 5 -> 2
            posted say 2 y=0 -> 1
            learn 0 1
            learn 1 0
            needless 0 1
            needless 1 0
            odds 0 3
            odds 1 4
            hours 0 1
            hours 1 0
            list 2 0
            go 3
            undo -> 2
            count 0 -> 2
            of 2 0 -> -10001
            of 0 6 -> 0
            of 0 7 -> 0
            of 0 11 -> 2
            of 1 6 -> 1
            of 1 7 -> 1
            of 1 11 -> 5
            told 0 -> 1
            told 2 -> 1
            told 3 -> 2
            told 4 -> 1
            told 5 -> 1
            told 10 -> 0
            told 11 -> 3
            said 0 0 -> 1
            count 1 -> 2
            count 2 -> 1
            looked -> -5
            posted say 3 y=0 -> 2
            undo -> 2
            said 0 0 -> 1
            doing 4 0 1 0 0 0 -> 2
            of 2 0 -> 4
            image -> 3
            undo -> 3
            of 2 0 -> 4
            """);
    }

    private static void imageOfNothing() {
        Table.edge("All is as THE IMAGE: how many DOINGS. STATE: there is none.", """
            undo -> -3
            go 1
            undo -> -3
            told 2 -> 1
            undo -> -3
            image -> 0
            10* doing 0 0 1 0 0 0 -> 9
            posted call 3
            undo -> 0
            count 0 -> 0
            told 0 -> 7
            told 2 -> 1
            10* doing 1 0 1 0 0 0 -> 9
            doing 1 0 1 0 0 0 -> -4
            image -> 10
            go 5
            undo -> 10
            told 2 -> 1
            of 9 0 -> 1
            doing 1 0 1 0 0 0 -> -4
            """);
        Table.edge("All is as THE IMAGE", """
            text call 5
            tape 0 2 3
            item 0 1 9
            doing 0 0 1 0 0 0
            act 0 2 1
            image -> 1
            text ;fade 6
            item 0 1 8
            tape 1 4 1
            act 0 0 1
            undo -> 1
            count 3 -> 13
            read 0 1 -> 8
            read 1 0 -> 0
            count 4 -> 1
            post -> 0
            told 1 -> 6
            """);
    }

    private static void judged() {
        Table.edge("the first of which it is otherwise; -5: none, or there is none to look at; 100 and how many were looked at, if the row ends ahead of that (or the place is below 0, or the TAPE holds nothing)", """
            judge 0 0 -> -5
            tape 0 4 0
            judge 0 0 -> -5
            tape 0 4 3
            judge 0 0 -> -5
            doing 0 0 1 0 0 0
            doing 0 0 1 0 0 0
            judge 0 0 -> -5
            judge 0 1 -> -5
            judge 0 2 -> 101
            judge 0 3 -> 100
            judge 0 4 -> 100
            judge 0 MAX -> 100
            judge 0 -1 -> 100
            judge 0 MIN -> 100
            judge 1 0 -> 100
            judge 1 -1 -> 100
            tape 1 4 0
            judge 1 0 -> 100
            learn 1 1
            judge 0 0 -> 1
            judge 0 2 -> 101
            item 0 1 1
            judge 0 0 -> -5
            judge 0 1 -> 0
            learn 0 1
            judge 0 0 -> 0
            judge 0 2 -> 0
            """);
    }

    private static void judgedAtEnds() {
        Table.edge("NONE: tape; CAST: it is no row of booleans.", """
            judge -1 0 -> -1
            judge 6 0 -> -1
            judge MIN 0 -> -1
            judge MAX 0 -> -1
            tape 5 0 60
            judge 5 0 -> -12
            tape 5 1 60
            judge 5 0 -> -12
            tape 5 2 60
            judge 5 0 -> -12
            tape 5 3 60
            judge 5 0 -> -12
            doing 0 0 1 0 0 0
            judge 5 0 -> -12
            judge 5 -1 -> -12
            judge 5 60 -> -12
            tape 5 3 0
            judge 5 0 -> -12
            tape 5 -1 0
            judge 5 0 -> 100
            """);
        Table.edge("JUDGED from place i of a TAPE on.", """
            10* doing 0 0 1 0 0 0
            tape 5 4 60
            judge 5 50 -> -5
            judge 5 51 -> 109
            judge 5 59 -> 101
            judge 5 60 -> 100
            learn 9 1
            judge 5 50 -> 9
            judge 5 51 -> 109
            item 5 59 1
            judge 5 50 -> -5
            """);
    }

    private static void tapes() {
        Table.edge("A TAPE becomes a row of n (0 .. 60) of a sort, all 0, or holds nothing (sort -1: n does not matter): 1. NONE: tape; BAD: sort, n above 60; SIZE.", """
            tape -1 0 1 -> -1
            tape 6 0 1 -> -1
            tape MIN 0 1 -> -1
            tape MAX 0 1 -> -1
            tape 6 9 99 -> -1
            tape -1 0 -1 -> -1
            tape 0 -2 1 -> -2
            tape 0 5 1 -> -2
            tape 0 MIN 1 -> -2
            tape 0 MAX 1 -> -2
            tape 0 5 -1 -> -2
            tape 0 -2 -1 -> -2
            tape 0 0 61 -> -2
            tape 0 4 MAX -> -2
            tape 0 5 61 -> -2
            tape 0 0 -1 -> -14
            tape 0 4 MIN -> -14
            item 0 0 1 -> -11
            tape 0 0 60 -> 1
            read 0 59 -> 0
            read 0 60 -> NO
            item 0 59 1 -> 1
            tape 0 1 60 -> 1
            read 0 59 -> 0
            item 0 0 1 -> 1
            tape 0 1 0 -> 1
            read 0 0 -> NO
            tape 0 1 1 -> 1
            read 0 0 -> 0
            tape 0 -1 99 -> 1
            item 0 0 1 -> -11
            read 0 0 -> NO
            tape 0 -1 MIN -> 1
            tape 0 -1 MAX -> 1
            tape 6 -1 0 -> -1
            tape 5 4 60 -> 1
            """);
        Table.edge("TAPES 0 .. 5 hold nothing (at first)", """
            item 0 0 1 -> -11
            item 5 0 1 -> -11
            read 0 0 -> NO
            read 5 0 -> NO
            shift 0 0 5 0 0 -> -11
            """);
    }

    /** Items put and read again, one sort after the other. */
    private static void items() {
        String[] told = {"127", "128", "255", "256", "-128", "-129", "32767", "32768", "65535", "65536", "-32768", "-32769",
            "2147483647", "2147483648", "4294967295", "4294967296", "MIN", "-2147483649", "LMAX", "LMIN", "-1", "0", "1", "2"};
        String[][] kept = {
            {"127", "-128", "-1", "0", "-128", "127", "-1", "0", "-1", "0", "0", "-1", "-1", "0", "-1", "0", "0", "-1", "-1", "0", "-1", "0", "1", "2"},
            {"127", "128", "255", "256", "-128", "-129", "32767", "-32768", "-1", "0", "-32768", "32767",
                "-1", "0", "-1", "0", "0", "-1", "-1", "0", "-1", "0", "1", "2"},
            {"127", "128", "255", "256", "-128", "-129", "32767", "32768", "65535", "65536", "-32768", "-32769",
                "2147483647", "MIN", "-1", "0", "MIN", "2147483647", "-1", "0", "-1", "0", "1", "2"},
            told,
            {"1", "1", "1", "1", "1", "1", "1", "1", "1", "1", "1", "1", "1", "1", "1", "1", "1", "1", "1", "1", "1", "0", "1", "1"}};
        for (int sort = 0; sort < 5; sort++) {
            StringBuilder rows = new StringBuilder("tape 2 " + sort + " " + told.length + "\n");
            for (int k = 0; k < told.length; k++) {
                rows.append("item 2 ").append(k).append(' ').append(told[k]).append(" -> 1\n");
            }
            for (int k = 0; k < told.length; k++) {
                rows.append("read 2 ").append(k).append(" -> ").append(kept[sort][k]).append('\n');
            }
            Table.edge("(its lowest bits, as many as an item has; booleans: whether v is not 0)", rows.toString());
        }
        Table.edge("(its lowest bits, as many as an item has; booleans: whether v is not 0): 1. NONE; NOTHING; PLACE.", """
            item -1 0 1 -> -1
            item 6 0 1 -> -1
            item MIN 0 1 -> -1
            item MAX 0 1 -> -1
            item 0 0 1 -> -11
            item 0 -1 1 -> -11
            tape 0 3 0
            item 0 0 1 -> -13
            item 0 -1 1 -> -13
            tape 0 3 60
            item 0 -1 1 -> -13
            item 0 60 1 -> -13
            item 0 MIN 1 -> -13
            item 0 MAX 1 -> -13
            item 6 60 1 -> -1
            read 0 0 -> 0
            read 0 59 -> 0
            item 0 0 7 -> 1
            item 0 59 8 -> 1
            read 0 0 -> 7
            read 0 59 -> 8
            read 0 58 -> 0
            """);
    }

    private static void reads() {
        Table.edge("NO: no such TAPE, nothing there, no such place.", """
            read -1 0 -> NO
            read 6 0 -> NO
            read MIN 0 -> NO
            read MAX 0 -> NO
            read 0 0 -> NO
            tape 0 3 0
            read 0 0 -> NO
            read 0 -1 -> NO
            tape 0 3 60
            read 0 -1 -> NO
            read 0 60 -> NO
            read 0 MIN -> NO
            read 0 MAX -> NO
            read 0 0 -> 0
            item 0 59 LMAX -> 1
            read 0 59 -> LMAX
            """);
    }

    private static void shifts() {
        Table.edge("n items of a TAPE from i on come to another one (or the same) from j on, as they all were before: n. NONE: tapes; NOTHING; CAST: of unlike sorts; PLACE: n, i or j is below 0, or beyond either's end.", """
            tape 0 2 4
            item 0 0 1
            item 0 1 2
            item 0 2 3
            item 0 3 4
            tape 1 2 3
            tape 2 3 4
            tape 3 2 0
            shift -1 0 1 0 1 -> -1
            shift 6 0 1 0 1 -> -1
            shift 0 0 -1 0 1 -> -1
            shift 0 0 6 0 1 -> -1
            shift MIN 0 MAX 0 1 -> -1
            shift 4 0 6 0 1 -> -1
            shift 6 0 4 0 1 -> -1
            shift 4 0 0 0 1 -> -11
            shift 0 0 4 0 1 -> -11
            shift 4 0 5 0 -1 -> -11
            shift 0 0 2 0 1 -> -12
            shift 0 -1 2 9 -1 -> -12
            shift 2 0 0 0 0 -> -12
            shift 0 0 1 0 -1 -> -13
            shift 0 -1 1 0 1 -> -13
            shift 0 0 1 -1 1 -> -13
            shift 0 -1 1 0 0 -> -13
            shift 0 0 1 -1 0 -> -13
            shift 0 3 1 0 2 -> -13
            shift 0 0 1 2 2 -> -13
            shift 0 0 1 0 4 -> -13
            shift 1 0 0 0 4 -> -13
            shift 0 5 1 0 0 -> -13
            shift 0 0 1 4 0 -> -13
            shift 0 1 1 0 MAX -> -13
            shift 0 MAX 1 0 1 -> -13
            shift 0 0 1 MAX 1 -> -13
            shift 0 MAX 0 MAX MAX -> -13
            shift 0 MIN 1 MIN MIN -> -13
            shift 0 0 3 0 1 -> -13
            read 1 0 -> 0
            read 1 1 -> 0
            read 1 2 -> 0
            shift 0 4 1 3 0 -> 0
            shift 3 0 3 0 0 -> 0
            shift 0 0 3 0 0 -> 0
            shift 0 1 1 0 3 -> 3
            read 1 0 -> 2
            read 1 1 -> 3
            read 1 2 -> 4
            shift 0 0 0 1 3 -> 3
            read 0 0 -> 1
            read 0 1 -> 1
            read 0 2 -> 2
            read 0 3 -> 3
            shift 0 1 0 0 3 -> 3
            read 0 0 -> 1
            read 0 1 -> 2
            read 0 2 -> 3
            read 0 3 -> 3
            """);
    }

    private static void shiftsOfLongs() {
        Table.edge("as they all were before", """
            tape 0 3 60
            item 0 0 LMIN
            item 0 29 7
            tape 5 3 60
            shift 0 0 5 0 60 -> 60
            read 5 0 -> LMIN
            read 5 29 -> 7
            shift 5 0 5 30 30 -> 30
            read 5 30 -> LMIN
            read 5 59 -> 7
            shift 5 0 5 1 60 -> -13
            shift 5 0 5 0 61 -> -13
            shift 5 60 0 60 0 -> 0
            shift 5 61 0 60 0 -> -13
            """);
    }

    private static void counts() {
        Table.edge("4 bodies that ran in the latest act() (all, kept or not), 5 DOINGS that HE KNOWS. BAD.", """
            count 0 -> 0
            count 1 -> 0
            count 2 -> 0
            count 3 -> 0
            count 4 -> 0
            count 5 -> 0
            count 6 -> -2
            count -1 -> -2
            count MIN -> -2
            count MAX -> -2
            10* doing 0 0 1 0 0 0
            hand -> 10
            count 0 -> 10
            count 5 -> 10
            12* list 0 0
            count 2 -> 12
            """);
        Table.edge("and y HOURS of WAY y. NONE.", """
            told -1 -> -1
            told 6 -> -1
            told 9 -> -1
            told 14 -> -1
            told MIN -> -1
            told MAX -> -1
            """);
    }
}
