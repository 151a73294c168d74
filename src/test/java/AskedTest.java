/** What goes and what is asked, at its bounds: handing over, WEEKS, RUN, what is best, when, the LIST, ODDS. */
public final class AskedTest {
    /** WEEK 9999, by 167 calls. */
    private static final String AT_THE_END = "166* go 60\ngo 39 -> 9999\n";

    public static void main(String[] args) {
        goes();
        runs();
        splits();
        bestSplits();
        mores();
        asks();
        drops();
        whens();
        busiests();
        alls();
        allsFarOff();
        lists();
        lookedAt();
        rowsOfWeeks();
        fits();
        odds();
        oddsOfWeeks();
        Table.end();
    }

    private static void goes() {
        Table.edge("n WEEKS (1 .. 60) go: which WEEK it is. BAD; STATE: it would be above 9999.", """
            go 0 -> -2
            go 61 -> -2
            go -1 -> -2
            go MIN -> -2
            go MAX -> -2
            told 2 -> 0
            go 1 -> 1
            164* go 60 -> 9841
            go 60 -> 9901
            go 60 -> 9961
            go 39 -> -3
            go 60 -> -3
            go 61 -> -2
            told 2 -> 9961
            go 38 -> 9999
            go 1 -> -3
            go 60 -> -3
            go 0 -> -2
            go 61 -> -2
            told 2 -> 9999
            """);
        Table.edge("What is answered so changes nothing", AT_THE_END + """
            doing 6 1 1 0 10 99
            doing 0 0 1 0 10 0
            needless 1 1
            learn 1 1
            go 1 -> -3
            told 3 -> 0
            told 4 -> 0
            of 0 7 -> 0
            """);
        Table.edge("goes on from how all is", AT_THE_END + """
            doing 6 1 1 0 10 99
            doing 6 1 60 38 10 99
            run 200 1 -> 203
            run 1 4 -> 9999
            run 200 2 -> 0
            when 0 -> 9999
            when 1 -> 10058
            busiest 59 1 -> 1
            busiest 60 0 -> 10058
            all 3 -> 59
            list 99 0 -> 1
            list 59 1 -> 2
            looked -> -5
            fits -> 1
            chance 59 1 -> 2
            chance 60 1 -> 4
            """);
    }

    private static void runs() {
        Table.edge("RUN of n WEEKS (0 .. 200)", """
            posted call 0
            doing 6 1 1 0 1 99
            doing 0 0 60 59 1 99
            learn 1 1
            run 0 0 -> 0
            run 0 1 -> 0
            run 0 2 -> 0
            run 0 3 -> 1
            run 0 4 -> -5
            run 0 5 -> -5
            run 199 0 -> 199
            run 200 0 -> 200
            run 200 1 -> 200
            run 200 2 -> 0
            run 200 3 -> 1
            run 200 4 -> 0
            run 200 5 -> 0
            run -1 0 -> -10002
            run 201 5 -> -10002
            run MIN 3 -> -10002
            run MAX 4 -> -10002
            run 1 -1 -> -10001
            run 1 6 -> -10001
            run 1 MIN -> -10001
            run 1 MAX -> -10001
            run 201 6 -> -10001
            run -1 -1 -> -10001
            """);
        Table.edge("how many DOINGS HE KNOWS then; the first STOP: its WEEK (-5: none), the DOING.", """
            run 200 0 -> 0
            run 200 1 -> 0
            run 200 3 -> 0
            run 200 4 -> -5
            run 200 5 -> -5
            doing 0 0 60 59 40 99
            doing 0 0 60 59 40 99
            learn 0 1
            run 59 3 -> 1
            run 59 4 -> -5
            run 59 5 -> -5
            run 60 3 -> 1
            run 60 4 -> 59
            run 60 5 -> 1
            posted call 99
            run 60 3 -> 2
            go 2
            run 57 4 -> -5
            run 58 4 -> 59
            needless 1 1
            run 200 4 -> -5
            run 200 5 -> -5
            """);
        Table.edge("COSTS, STOPS, CALLS that come by these", """
            posted call 1;fade 0
            doing 6 1 1 0 20 99
            doing 6 1 1 0 30 99
            go 5
            told 3 -> 155
            run 2 0 -> 62
            run 2 1 -> 4
            run 2 2 -> 2
            """);
    }

    private static void splits() {
        Table.edge("SPLIT of h HOURS (0 .. 9) for n WEEKS (0 .. 60)", """
            split 0 0 -1 -> 0
            split 0 0 0 -> 0
            split 0 0 3 -> 0
            split 9 60 -1 -> 0
            split 9 60 0 -> 0
            split 9 60 1 -> 0
            split 9 60 2 -> 0
            split 9 60 3 -> 9
            split -1 0 -1 -> -10002
            split 10 0 0 -> -10002
            split MIN 0 1 -> -10002
            split MAX 0 2 -> -10002
            split 0 -1 3 -> -10002
            split 0 61 -1 -> -10002
            split 0 MIN 0 -> -10002
            split 0 MAX 1 -> -10002
            split 0 0 -2 -> -10001
            split 0 0 4 -> -10001
            split 0 0 MIN -> -10001
            split 0 0 MAX -> -10001
            split 10 61 4 -> -10001
            split -1 -1 -2 -> -10001
            """);
    }

    private static void bestSplits() {
        Table.edge("that by which RUN, handed over now, costs least; of several the first as a row (HOURS of pages, side by side, asked, cases)", """
            posted call 0;say 3 y=0&i=0;say 3 y=1&i=1;say 1 y=2&i=0
            doing 0 0 60 59 10 27
            split 8 60 -1 -> 10
            split 8 60 0 -> 0
            split 8 60 3 -> 8
            split 9 59 0 -> 0
            split 9 59 3 -> 9
            split 9 60 -1 -> 0
            split 9 60 0 -> 9
            split 9 60 3 -> 0
            doing 0 0 60 59 10 3
            split 9 60 -1 -> 10
            split 9 60 0 -> 0
            split 9 60 1 -> 1
            split 9 60 2 -> 0
            split 9 60 3 -> 8
            count 5 -> 0
            """);
        Table.edge("(in place of those told)", """
            posted call 0;say 3 y=0
            doing 0 0 1 0 10 1
            doing 0 0 1 0 10 99
            hours 0 9
            split 0 5 -1 -> 100
            split 1 5 -1 -> 50
            split 1 5 0 -> 1
            told 10 -> 9
            needless 0 1
            split 1 5 -1 -> 50
            split 1 5 0 -> 0
            split 1 5 3 -> 1
            learn 0 1
            split 0 5 -1 -> 55
            """);
    }

    private static void mores() {
        String words = "what RUN of n WEEKS costs, handed over now, less what it would with an HOUR more of that WAY (9 already: 0).";
        for (int way = 0; way < 4; way++) {
            Table.edge(words, """
                posted call 0;say 3 y=0;say 3 y=1;say 3 y=2;say 3 y=3
                doing 0 0 1 0 10 30
                doing 0 0 1 0 10 27
                """ + "hours " + way + " 8\nmore " + way + " 5 -> 50\nmore " + way + " 0 -> 0\nmore " + way + " 60 -> 600\n"
                + "hours " + way + " 9\nmore " + way + " 5 -> 0\nmore " + way + " 60 -> 0\nmore " + (way + 1) % 4 + " 5 -> 50\n"
                + "more " + way + " 61 -> -10002\nmore " + way + " -1 -> -10002\ntold " + (10 + way) + " -> 9\ncount 5 -> 0");
        }
        Table.edge("MORE of a WAY for n WEEKS (0 .. 60). -10001: NONE; -10002: BAD.", """
            more 0 0 -> 0
            more 3 60 -> 0
            more 0 -1 -> -10002
            more 0 61 -> -10002
            more 3 MIN -> -10002
            more 3 MAX -> -10002
            more -1 0 -> -10001
            more 4 0 -> -10001
            more MIN 0 -> -10001
            more MAX 0 -> -10001
            more 4 61 -> -10001
            more -1 -1 -> -10001
            """);
        Table.edge("costs, handed over now, less", """
            posted call 0;say 1 y=0
            doing 0 0 1 0 0 1
            needless 0 1
            more 0 60 -> -60
            """);
    }

    private static void asks() {
        Table.edge("(of several the least; -5: he KNOWS all)", """
            posted call 0
            ask 0 -> -5
            ask 60 -> -5
            9* doing 0 0 60 58 10 99
            doing 0 0 60 59 11 99
            ask 0 -> 0
            ask 59 -> 0
            ask 60 -> 9
            learn 0 1
            ask 59 -> 1
            ask 60 -> 9
            learn 9 1
            ask 60 -> 1
            needless 1 1
            ask 60 -> 2
            learn 2 1
            learn 3 1
            learn 4 1
            learn 5 1
            learn 6 1
            learn 7 1
            ask 60 -> 8
            learn 8 1
            ask 60 -> 1
            learn 1 1
            ask 0 -> -5
            ask 60 -> -5
            ask 61 -> -2
            """);
        Table.edge("ASK of n WEEKS (0 .. 60); -5. BAD.", """
            ask -1 -> -2
            ask 61 -> -2
            ask MIN -> -2
            ask MAX -> -2
            """);
    }

    private static void drops() {
        Table.edge("RUN costs least (of several the least; -5: none)", """
            posted call 0
            drop 0 -> -5
            drop 60 -> -5
            9* doing 0 0 60 58 10 99
            doing 0 0 60 59 11 99
            drop 0 -> 0
            drop 59 -> 0
            drop 60 -> 9
            needless 9 1
            drop 60 -> 0
            learn 0 1
            drop 60 -> 1
            needless 1 1
            needless 2 1
            needless 3 1
            needless 4 1
            needless 5 1
            needless 6 1
            needless 7 1
            drop 60 -> 8
            needless 8 1
            drop 60 -> 0
            needless 0 1
            drop 60 -> -5
            drop 0 -> -5
            drop 61 -> -2
            """);
        Table.edge("DROP of n WEEKS (0 .. 60); -5. BAD.", """
            drop -1 -> -2
            drop 61 -> -2
            drop MIN -> -2
            drop MAX -> -2
            """);
    }

    private static void whens() {
        Table.edge("the number of the first WEEK from now on (this one, too) in which it comes round", """
            when 0 -> -1
            doing 0 0 1 0 0 0
            doing 0 0 60 59 0 0
            doing 0 0 60 0 0 0
            when 0 -> 0
            when 1 -> 59
            when 2 -> 0
            when 3 -> -1
            when -1 -> -1
            when MIN -> -1
            when MAX -> -1
            needless 1 1
            learn 1 1
            go 1
            when 0 -> 1
            when 2 -> 60
            go 58
            when 1 -> 59
            go 1
            when 1 -> 119
            when 2 -> 60
            """);
    }

    private static void busiests() {
        Table.edge("BUSIEST of n WEEKS (1 .. 200): that of the next n (from this one on) in which most DOINGS come round (of several the first); how many.", """
            busiest 1 0 -> 0
            busiest 200 1 -> 0
            doing 0 0 59 22 0 0
            doing 0 0 60 19 0 0
            busiest 19 0 -> 0
            busiest 19 1 -> 0
            busiest 20 0 -> 19
            busiest 20 1 -> 1
            busiest 199 0 -> 19
            busiest 199 1 -> 1
            busiest 200 0 -> 199
            busiest 200 1 -> 2
            needless 0 1
            learn 1 1
            busiest 200 1 -> 2
            go 19
            busiest 1 0 -> 19
            busiest 1 1 -> 1
            busiest 180 1 -> 1
            busiest 181 0 -> 199
            go 1
            busiest 1 0 -> 20
            busiest 1 1 -> 0
            8* doing 0 0 1 0 0 0
            busiest 1 1 -> 8
            busiest 180 1 -> 10
            """);
        Table.edge("BUSIEST of n: what 0 the WEEK, 1 how many. NONE; BAD.", """
            busiest 0 0 -> -2
            busiest 201 1 -> -2
            busiest -1 0 -> -2
            busiest MIN 1 -> -2
            busiest MAX 0 -> -2
            busiest 1 -1 -> -1
            busiest 1 2 -> -1
            busiest 1 MIN -> -1
            busiest 1 MAX -> -1
            busiest 0 2 -> -1
            busiest 201 -1 -> -1
            """);
    }

    private static void alls() {
        Table.edge("BAD: no bits, or of such as are not there.", """
            all 0 -> -2
            all 1 -> -2
            all -1 -> -2
            3* doing 0 0 1 0 0 0
            all 0 -> -2
            all 7 -> 0
            all 8 -> -2
            all 9 -> -2
            all 15 -> -2
            all -1 -> -2
            all MIN -> -2
            all MAX -> -2
            7* doing 0 0 2 1 0 0
            all 1023 -> 1
            all 512 -> 1
            all 1024 -> -2
            all 1025 -> -2
            all 2047 -> -2
            all -1024 -> -2
            """);
    }

    private static void allsFarOff() {
        Table.edge("in how many WEEKS from now on all these come round at once first (0 .. 3600; -5: never by then)", """
            doing 0 0 58 4 0 0
            doing 0 0 59 1 0 0
            doing 0 0 60 0 0 0
            doing 0 0 58 5 0 0
            doing 0 0 59 2 0 0
            doing 0 0 60 1 0 0
            all 4 -> 0
            all 7 -> 3600
            all 56 -> -5
            all 36 -> -5
            needless 0 1
            learn 1 1
            all 7 -> 3600
            go 1
            all 7 -> 3599
            all 56 -> 3600
            all 32 -> 0
            all 4 -> 59
            go 1
            all 56 -> 3599
            """);
    }

    private static void lists() {
        Table.edge("rows (12 at most) of a WEEK (told as how many WEEKS on from now, 0 .. 99) and a DOING", """
            list 0 0 -> -1
            doing 0 0 1 0 0 0
            list -2 0 -> -2
            list 100 0 -> -2
            list MIN 0 -> -2
            list MAX 0 -> -2
            list 0 1 -> -1
            list 0 -1 -> -1
            list 99 MIN -> -1
            list 99 MAX -> -1
            list 100 1 -> -2
            list -2 -1 -> -2
            count 2 -> 0
            list 0 0 -> 1
            list 99 0 -> 2
            10* list 0 0 -> 12
            list 0 0 -> -4
            list 0 1 -> -1
            list 100 0 -> -2
            list 100 1 -> -2
            count 2 -> 12
            """);
        Table.edge("(weeks -1: it is empty then, 0, whatever the other is)", """
            list -1 0 -> 0
            list -1 MIN -> 0
            doing 0 0 1 0 0 0
            12* list 0 0
            list -1 77 -> 0
            count 2 -> 0
            list -1 -1 -> 0
            12* list 1 0 -> 12
            list 1 0 -> -4
            list -1 0 -> 0
            list 1 0 -> 1
            """);
    }

    private static void lookedAt() {
        Table.edge("the first row that is not so in RUN of 100 WEEKS (-5: none)", """
            looked -> -5
            posted call 0
            doing 6 1 3 0 0 99
            doing 6 1 60 39 0 99
            looked -> -5
            list 99 0
            looked -> -5
            list 99 1
            looked -> -5
            list 98 0
            looked -> 2
            list 0 1
            looked -> 2
            learn 1 1
            looked -> 1
            learn 0 1
            looked -> 0
            learn 0 0
            needless 0 1
            looked -> 0
            list -1 0
            looked -> -5
            """);
        Table.edge("the first row that is not so in RUN of 100 WEEKS (-5: none)", """
            doing 6 1 1 0 0 99
            doing 0 0 1 0 0 99
            list 0 1
            10* list 5 0
            looked -> -5
            list 1 1
            looked -> 11
            posted call 0
            looked -> -5
            """);
    }

    /** A row's WEEK is told from now on and keeps its number: it comes nearer, and is gone by. */
    private static void rowsOfWeeks() {
        Table.edge("of a WEEK (told as how many WEEKS on from now, 0 .. 99)", """
            posted call 0
            doing 6 1 60 1 0 99
            list 1 0
            looked -> -5
            go 1
            looked -> -5
            list 0 0
            list 60 0
            looked -> -5
            list 1 0
            looked -> 3
            go 1
            looked -> 0
            fits -> 0
            list -1 0
            list 59 0
            looked -> -5
            """);
    }

    private static void fits() {
        Table.edge("of all sets of DOINGS that HE might KNOW now (8 DOINGS at most; else -9) how many there are by which all rows of the LIST are so", """
            fits -> 1
            posted call 0
            doing 6 1 1 0 1 99
            fits -> 2
            list 99 0
            fits -> 1
            learn 0 1
            fits -> 1
            list 0 0
            needless 0 1
            fits -> 0
            needless 0 0
            7* doing 0 0 2 1 1 99
            fits -> 128
            list 1 7
            list 1 6
            fits -> 32
            list 0 7
            fits -> 0
            list -1 0
            fits -> 256
            doing 0 0 1 0 1 1 -> 8
            fits -> -9
            doing 0 0 1 0 1 1 -> 9
            fits -> -9
            count 5 -> 1
            """);
    }

    private static void odds() {
        Table.edge("how likely nothing would STOP in RUN of n WEEKS (0 .. 60): a fraction in lowest terms", """
            chance 0 0 -> 1
            chance 0 1 -> 1
            chance 60 0 -> 1
            chance 60 1 -> 1
            chance -1 0 -> NO
            chance 61 0 -> NO
            chance MIN 1 -> NO
            chance MAX 1 -> NO
            chance 0 -1 -> NO
            chance 0 2 -> NO
            chance 60 MIN -> NO
            chance 60 MAX -> NO
            10* doing 0 0 1 0 0 0
            chance 0 0 -> 1
            chance 0 1 -> 1
            chance 1 0 -> 1
            chance 1 1 -> 1024
            odds 0 0
            chance 1 0 -> 0
            chance 1 1 -> 1
            odds 0 10
            chance 60 0 -> 1
            chance 60 1 -> 512
            """);
        StringBuilder nines = new StringBuilder("10* doing 6 0 1 0 0 99\n"), ones = new StringBuilder(), tens = new StringBuilder();
        for (int d = 0; d < 10; d++) {
            nines.append("odds ").append(d).append(" 9\n");
            ones.append("odds ").append(d).append(" 1\n");
            tens.append("odds ").append(d).append(" 10\n");
        }
        Table.edge("with odds of so many of ten (told for each, 0 .. 10; 5 at first), each by itself", nines + """
            chance 60 0 -> 3486784401
            chance 60 1 -> 10000000000
            """ + ones + """
            chance 60 0 -> 1
            chance 60 1 -> 10000000000
            """ + tens + """
            chance 60 0 -> 1
            chance 60 1 -> 1
            odds 9 4
            odds 8 6
            chance 60 0 -> 6
            chance 60 1 -> 25
            """);
    }

    private static void oddsOfWeeks() {
        Table.edge("if HE KNEW each of the DOINGS now with odds of so many of ten", """
            doing 0 0 60 59 0 0
            doing 0 0 1 0 0 0
            odds 0 3
            odds 1 7
            chance 59 0 -> 7
            chance 59 1 -> 10
            chance 60 0 -> 21
            chance 60 1 -> 100
            learn 0 1
            learn 1 1
            chance 60 0 -> 21
            needless 1 1
            chance 60 0 -> 3
            chance 60 1 -> 10
            chance 59 0 -> 1
            chance 59 1 -> 1
            go 1
            chance 58 0 -> 1
            chance 59 0 -> 3
            """);
    }
}
