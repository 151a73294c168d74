import java.util.ArrayList;
import java.util.List;

/**
 * "What is answered so changes nothing; what is asked changes nothing": each call that is refused (with the refusal
 * that its words name first) or that asks is made on one of two objects of the same story, and both must look alike.
 */
public final class RefusedTest {
    private static final String SOME = """
        doing 0 2 4 1 30 9
        doing 6 3 5 2 45 12
        doing 2 6 3 0 8 7
        posted say 3 y=0;cost 4 w=1;call 2;fade 1
        learn 2 1
        needless 1 1
        odds 0 8
        hours 0 2
        hours 3 1
        list 1 0
        list 9 0
        image
        go 2
        posted say 5 y=0;say 1 y=3;cost 2 k=6
        needless 1 0
        needless 2 1
        odds 1 3
        list 5 1
        text call 5
        tape 0 4 3
        item 0 2 1
        tape 1 0 4
        item 1 3 77
        tape 2 0 2
        item 2 1 -5
        tape 3 3 0
        act 1 2 5
        """;
    private static final String FULL = """
        doing 0 1 7 2 12 20
        doing 1 2 8 4 13 21
        doing 2 3 9 5 14 22
        doing 3 4 10 6 15 23
        doing 4 5 11 7 16 24
        doing 5 6 12 3 17 25
        doing 6 7 13 8 18 26
        doing 0 8 14 9 19 27
        doing 1 9 15 10 20 28
        doing 2 0 16 11 21 29
        posted say 5 y=0;say 9 y=3
        5* posted call 3
        100* feed 121
        12* list 3 5
        learn 3 1
        learn 9 1
        needless 4 1
        hours 0 9
        hours 1 9
        hours 2 9
        hours 3 8
        odds 5 10
        odds 6 0
        image
        tape 0 4 60
        item 0 3 1
        item 0 9 1
        tape 5 3 60
        item 5 59 -1
        act 0 2 -9
        """;
    private static final String LATE = """
        doing 6 1 1 0 30 9
        doing 0 1 60 38 30 9
        166* go 60
        go 39
        list 59 1
        text call 1
        """;
    private static final String EIGHT = "8* doing 0 1 3 1 20 30\nlearn 2 1\nlist 1 0\n";

    private static final List<List<String>> LOOKS = looks();

    public static void main(String[] args) {
        tellingRefused();
        weeksRefused();
        bestRefused();
        listsRefused();
        actsRefused();
        tapesRefused();
        shiftsRefused();
        asked("", "a new object");
        asked(SOME, "some");
        asked(FULL, "full");
        asked(LATE, "WEEK 9999");
        asked(EIGHT, "eight");
        Table.end();
    }

    // ---- looking

    /** What can be asked, in pieces, as no object is used for more than 512 calls. */
    private static List<List<String>> looks() {
        List<List<String>> looks = new ArrayList<>();
        looks.add(doingsLook());
        looks.add(otherLook());
        looks.add(tapesLook(0));
        looks.add(tapesLook(3));
        looks.add(postLook());
        looks.add(undoneLook());
        return looks;
    }

    private static List<String> doingsLook() {
        List<String> look = new ArrayList<>();
        for (int d = 0; d < 10; d++) {
            for (int what = 0; what < 12; what++) {
                look.add("of " + d + " " + what);
            }
            look.add("when " + d);
            look.add("said " + d + " " + d % 4);
        }
        return look;
    }

    private static List<String> otherLook() {
        List<String> look = new ArrayList<>();
        for (int what = 0; what < 14; what++) {
            look.add("told " + what);
        }
        for (int what = 0; what < 6; what++) {
            look.add("count " + what);
            look.add("run 200 " + what);
        }
        for (int i = 0; i < 20; i++) {
            look.add("trace " + i);
        }
        for (int way = 0; way < 4; way++) {
            look.add("split 5 20 " + way);
            look.add("more " + way + " 20");
        }
        for (String call : new String[] {"split 5 20 -1", "ask 20", "drop 20", "busiest 60 0", "busiest 60 1", "all 1", "all 3",
            "all 1023", "looked", "fits", "chance 60 0", "chance 60 1", "judge 0 0", "judge 5 0", "taken 1 3"}) {
            look.add(call);
        }
        return look;
    }

    /** Items, and by refused calls which TAPES hold rows, of which sorts. */
    private static List<String> tapesLook(int first) {
        List<String> look = new ArrayList<>();
        for (int tape = first; tape < first + 3; tape++) {
            for (int i = 0; i < 61; i++) {
                look.add("read " + tape + " " + i);
            }
            for (int other = 0; other < 6; other++) {
                look.add("shift " + tape + " 0 " + other + " 0 -1");
            }
            look.add("judge " + tape + " 0");
        }
        return look;
    }

    private static List<String> postLook() {
        return List.of("looked", "post", "count 1", "count 3", "told 0", "told 1", "said 0 0", "of 0 10", "list 3 0", "count 2",
                "looked", "fits", "doing 1 5 9 8 7 6", "of 3 0", "of 3 1", "of 3 6", "of 3 7", "of 3 11", "hand", "go 1", "told 2", "told 3",
                "told 4", "told 5", "count 5", "learn 0 1", "looked", "learn 1 1", "looked", "learn 2 1", "looked");
    }

    private static List<String> undoneLook() {
        List<String> look = new ArrayList<>();
        look.add("undo");
        for (int d = 0; d < 4; d++) {
            for (int what = 6; what < 12; what++) {
                look.add("of " + d + " " + what);
            }
        }
        look.addAll(otherLook());
        return look;
    }

    private static List<Long> answers(String story, String call, List<String> look) {
        Script script = Script.after(story);
        if (call != null) {
            script.call(call);
        }
        List<Long> answers = new ArrayList<>();
        for (String line : look) {
            answers.add(script.call(line));
        }
        return answers;
    }

    private static void changesNothing(String story, String name, String call) {
        for (List<String> look : LOOKS) {
            List<Long> with = answers(story, call, look), without = answers(story, null, look);
            for (int k = 0; k < look.size(); k++) {
                Table.due(name + ", behind " + call + ": " + look.get(k), with.get(k), without.get(k));
            }
        }
    }

    private static void refused(String words, String story, String name, String rows) {
        Table.stands(words);
        for (String line : rows.split("\n")) {
            int arrow = line.lastIndexOf(" -> ");
            String call = line.substring(0, arrow).strip();
            Script script = Script.after(story);
            Table.due("\"" + words + "\", " + name + ": " + call, script.call(call), Script.number(line.substring(arrow + 4)));
            changesNothing(story, name, call);
        }
    }

    // ---- refused

    private static void tellingRefused() {
        refused("A DOING: its number. NONE: kind; BAD: v, round, place, cost, need; FULL: 10.", SOME, "some", """
            doing -1 0 1 0 0 0 -> -1
            doing 7 10 0 -1 100 100 -> -1
            doing 0 -1 1 0 0 0 -> -2
            doing 0 10 1 0 0 0 -> -2
            doing 0 0 0 0 0 0 -> -2
            doing 0 0 61 0 0 0 -> -2
            doing 0 0 5 -1 0 0 -> -2
            doing 0 0 5 5 0 0 -> -2
            doing 0 0 5 0 -1 0 -> -2
            doing 0 0 5 0 100 0 -> -2
            doing 0 0 5 0 0 -1 -> -2
            doing 0 0 5 0 0 100 -> -2
            """);
        refused("A DOING: its number. NONE: kind; BAD: v, round, place, cost, need; FULL: 10.", FULL, "full", """
            doing 0 0 1 0 0 0 -> -4
            doing 6 9 60 59 99 99 -> -4
            doing 7 0 1 0 0 0 -> -1
            doing -1 10 1 0 0 0 -> -1
            doing 0 10 1 0 0 0 -> -2
            doing 0 0 0 0 0 0 -> -2
            doing 0 0 5 5 0 0 -> -2
            doing 0 0 5 0 100 0 -> -2
            doing 0 0 5 0 0 100 -> -2
            """);
        refused("A DOING is NEEDLESS, or not: 1 if it was, 0. NONE.", SOME, "some",
                "needless 3 1 -> -1\nneedless -1 1 -> -1\nneedless 3 0 -> -1\nneedless 31 1 -> -1\nneedless 32 1 -> -1\nneedless MAX 1 -> -1");
        refused("HE KNOWS a DOING, or not: 1 if he did, 0. NONE.", SOME, "some",
                "learn 3 1 -> -1\nlearn -1 1 -> -1\nlearn 9 1 -> -1\nlearn 32 1 -> -1\nlearn MIN 1 -> -1");
        refused("HE KNOWS a DOING, or not: 1 if he did, 0. NONE.", FULL, "full", "learn 10 1 -> -1\nlearn 10 0 -> -1\nlearn -1 1 -> -1");
        refused("Odds of a DOING become n (0 .. 10): what they were. NONE; BAD.", SOME, "some",
                "odds 3 1 -> -1\nodds -1 1 -> -1\nodds 3 11 -> -1\nodds -1 -1 -> -1\nodds 0 -1 -> -2\nodds 0 11 -> -2");
        refused("HOURS of a WAY become n (0 .. 9): what they were. NONE; BAD.", SOME, "some",
                "hours -1 1 -> -1\nhours 4 1 -> -1\nhours 4 10 -> -1\nhours -1 -1 -> -1\nhours 0 -1 -> -2\nhours 3 10 -> -2");
        refused("A sign (0 .. 127) comes behind THE TEXT's: how many it has. BAD; FULL.", SOME, "some", "feed -1 -> -2\nfeed 128 -> -2");
        refused("A sign (0 .. 127) comes behind THE TEXT's: how many it has. BAD; FULL.", FULL, "full",
                "feed 0 -> -4\nfeed 127 -> -4\nfeed -1 -> -2\nfeed 128 -> -2");
        refused("FULL: there are 6 (THE TEXT stays)", FULL, "full", "post -> -4");
        refused("FULL: there are 6 (THE TEXT stays)", "6* posted call 3\ntext call 4", "six POSTS, a whole text", "post -> -4");
        refused("FULL: there are 6 (THE TEXT stays)", "6* posted call 3", "six POSTS, no text", "post -> -4");
    }

    private static void weeksRefused() {
        refused("n WEEKS (1 .. 60) go: which WEEK it is. BAD; STATE: it would be above 9999.", SOME, "some",
                "go 0 -> -2\ngo 61 -> -2\ngo -1 -> -2\ngo MAX -> -2\ngo MIN -> -2");
        refused("n WEEKS (1 .. 60) go: which WEEK it is. BAD; STATE: it would be above 9999.", LATE, "WEEK 9999",
                "go 1 -> -3\ngo 60 -> -3\ngo 0 -> -2\ngo 61 -> -2");
        refused("All is as THE IMAGE: how many DOINGS. STATE: there is none.", "", "a new object", "undo -> -3");
        refused("All is as THE IMAGE: how many DOINGS. STATE: there is none.", LATE, "WEEK 9999", "undo -> -3");
        refused("-10001: NONE: what; -10002: BAD: n.", SOME, "some",
                "run 1 -1 -> -10001\nrun 1 6 -> -10001\nrun 201 6 -> -10001\nrun -1 -1 -> -10001\nrun -1 0 -> -10002\nrun 201 5 -> -10002");
    }

    private static void bestRefused() {
        refused("SPLIT: way -1 what RUN costs then, else HOURS of that WAY. -10001: NONE: way; -10002: BAD: h, n.", SOME, "some", """
            split 1 1 -2 -> -10001
            split 1 1 4 -> -10001
            split 10 61 4 -> -10001
            split -1 -1 -2 -> -10001
            split -1 1 -1 -> -10002
            split 10 1 0 -> -10002
            split 1 -1 3 -> -10002
            split 1 61 -1 -> -10002
            """);
        refused("MORE of a WAY for n WEEKS (0 .. 60). -10001: NONE; -10002: BAD.", SOME, "some",
                "more -1 1 -> -10001\nmore 4 1 -> -10001\nmore 4 61 -> -10001\nmore -1 -1 -> -10001\nmore 0 -1 -> -10002\nmore 3 61 -> -10002");
        refused("MORE of a WAY for n WEEKS (0 .. 60). -10001: NONE; -10002: BAD.", FULL, "full",
                "more 0 -1 -> -10002\nmore 0 61 -> -10002\nmore 4 1 -> -10001");
        refused("ASK of n WEEKS (0 .. 60); -5. BAD.", SOME, "some", "ask -1 -> -2\nask 61 -> -2");
        refused("DROP of n WEEKS (0 .. 60); -5. BAD.", SOME, "some", "drop -1 -> -2\ndrop 61 -> -2");
        refused("WHEN a DOING. NONE.", SOME, "some", "when 3 -> -1\nwhen -1 -> -1");
        refused("BUSIEST of n: what 0 the WEEK, 1 how many. NONE; BAD.", SOME, "some",
                "busiest 1 -1 -> -1\nbusiest 1 2 -> -1\nbusiest 0 2 -> -1\nbusiest 201 -1 -> -1\nbusiest 0 0 -> -2\nbusiest 201 1 -> -2");
        refused("ALL of a set (how many WEEKS on); -5. BAD: no bits, or of such as are not there.", SOME, "some",
                "all 0 -> -2\nall 8 -> -2\nall 15 -> -2\nall -1 -> -2\nall MIN -> -2");
    }

    private static void listsRefused() {
        String words = "BAD: weeks; NONE: doing; FULL: 12.";
        refused(words, SOME, "some", """
            list -2 0 -> -2
            list 100 0 -> -2
            list -2 3 -> -2
            list 100 -1 -> -2
            list 0 3 -> -1
            list 99 -1 -> -1
            """);
        refused(words, FULL, "full", """
            list 0 0 -> -4
            list 99 9 -> -4
            list 100 0 -> -2
            list -2 10 -> -2
            list 0 10 -> -1
            list 0 -1 -> -1
            """);
        refused("-10001: NONE.", SOME, "some", "of 3 0 -> -10001\nof -1 0 -> -10001\nof 0 -1 -> -10001\nof 0 12 -> -10001");
        refused("SAID of a DOING by a WAY in an HOUR. NONE.", SOME, "some", "said 3 0 -> -1\nsaid -1 0 -> -1\nsaid 0 -1 -> -1\nsaid 0 4 -> -1");
        refused("ODDS for n; part 0 above, 1 below the line. NO.", SOME, "some",
                "chance -1 0 -> NO\nchance 61 1 -> NO\nchance 1 -1 -> NO\nchance 1 2 -> NO");
    }

    private static void actsRefused() {
        refused("JUDGED from place i of a TAPE on. NONE: tape; CAST: it is no row of booleans.", SOME, "some",
                "judge -1 0 -> -1\njudge 6 0 -> -1\njudge 1 0 -> -12\njudge 3 0 -> -12\njudge 2 -1 -> -12");
        refused("THE TRACE's i-th body. NONE.", SOME, "some", "trace -1 -> -1\ntrace 12 -> -1\ntrace 20 -> -1");
        refused("BAD: k; NOTHING: no such DOING; CAST.", SOME, "some", """
            taken 0 -1 -> -2
            taken 0 7 -> -2
            taken 3 7 -> -2
            taken 3 0 -> -11
            taken -1 6 -> -11
            taken 0 1 -> -12
            taken 1 2 -> -12
            taken 2 5 -> -12
            """);
        refused("4 bodies that ran in the latest act() (all, kept or not), 5 DOINGS that HE KNOWS. BAD.", SOME, "some", "count -1 -> -2\ncount 6 -> -2");
        refused("and y HOURS of WAY y. NONE.", SOME, "some", "told -1 -> -1\ntold 6 -> -1\ntold 9 -> -1\ntold 14 -> -1");
        Table.stands("0, and no TRACE then: no such DOING, act.");
        for (String call : new String[] {"act 3 0 1", "act -1 0 1", "act 0 3 1", "act 0 -1 1"}) {
            Script script = Script.after(SOME);
            Table.due(call, script.call(call), 0);
            Table.due(call + ", trace", script.call("trace 0"), -1);
            changesNothing(SOME + "act 9 9 9\n", "no TRACE", call);
        }
    }

    private static void tapesRefused() {
        refused("1. NONE: tape; BAD: sort, n above 60; SIZE.", SOME, "some", """
            tape -1 0 1 -> -1
            tape 6 0 1 -> -1
            tape 6 5 61 -> -1
            tape -1 0 -1 -> -1
            tape 6 -1 0 -> -1
            tape 0 -2 1 -> -2
            tape 0 5 1 -> -2
            tape 0 5 -1 -> -2
            tape 0 4 61 -> -2
            tape 0 4 MAX -> -2
            tape 0 4 -1 -> -14
            tape 1 0 MIN -> -14
            tape 5 3 -1 -> -14
            """);
        refused("booleans: whether v is not 0): 1. NONE; NOTHING; PLACE.", SOME, "some", """
            item -1 0 1 -> -1
            item 6 99 1 -> -1
            item 4 0 1 -> -11
            item 5 -1 1 -> -11
            item 0 -1 1 -> -13
            item 0 3 1 -> -13
            item 1 4 1 -> -13
            item 3 0 1 -> -13
            """);
        refused("NO: no such TAPE, nothing there, no such place.", SOME, "some",
                "read -1 0 -> NO\nread 6 0 -> NO\nread 4 0 -> NO\nread 0 -1 -> NO\nread 0 3 -> NO\nread 3 0 -> NO");
        refused("booleans: whether v is not 0): 1. NONE; NOTHING; PLACE.", FULL, "full", "item 0 60 1 -> -13\nitem 5 60 1 -> -13");
    }

    private static void shiftsRefused() {
        String words = "NONE: tapes; NOTHING; CAST: of unlike sorts; PLACE: n, i or j is below 0, or beyond either's end.";
        refused(words, SOME, "some", """
            shift -1 0 1 0 1 -> -1
            shift 6 0 1 0 1 -> -1
            shift 1 0 -1 0 1 -> -1
            shift 1 0 6 0 1 -> -1
            shift 4 0 6 0 1 -> -1
            shift 6 0 4 0 1 -> -1
            shift 4 0 1 0 1 -> -11
            shift 1 0 4 0 1 -> -11
            shift 1 -1 5 9 -1 -> -11
            shift 0 0 1 0 1 -> -12
            shift 1 0 0 0 1 -> -12
            shift 1 -1 3 0 1 -> -12
            shift 1 0 2 0 -1 -> -13
            shift 1 -1 2 0 1 -> -13
            shift 1 0 2 -1 1 -> -13
            shift 1 3 2 0 2 -> -13
            shift 1 0 2 1 2 -> -13
            shift 1 0 2 0 3 -> -13
            shift 1 5 2 0 0 -> -13
            shift 1 0 2 3 0 -> -13
            shift 1 1 2 0 MAX -> -13
            shift 1 1 1 0 4 -> -13
            """);
        refused(words, FULL, "full", "shift 0 0 0 1 60 -> -13\nshift 5 1 5 0 60 -> -13\nshift 5 0 0 0 1 -> -12");
    }

    // ---- asked

    /** The same from any story on: what is asked, with numbers as told, leaves all as it was. */
    private static void asked(String story, String name) {
        Table.stands("what is asked changes nothing");
        String[] calls = {"of 0 8", "of 0 9", "of 0 10", "told 0", "told 13", "said 0 0", "run 0 0", "run 200 5", "split 0 0 -1",
            "split 9 60 3", "more 0 60", "more 3 60", "ask 0", "ask 60", "drop 0", "drop 60", "when 0", "busiest 1 0", "busiest 200 1",
            "all 1", "all 3", "looked", "fits", "chance 0 0", "chance 60 1", "judge 0 0", "judge 5 0", "trace 0", "taken 0 0", "count 0",
            "count 4", "read 0 0", "read 5 59"};
        for (String call : calls) {
            changesNothing(story, name, call);
        }
    }
}
