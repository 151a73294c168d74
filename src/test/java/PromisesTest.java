/** For each promise ordinary inputs, the edges that the document names, and wrong inputs. */
public final class PromisesTest {
    private static int wrong, looked;
    private static int promise;

    private static void due(String call, long got, long want) {
        looked++;
        if (got != want) {
            wrong++;
            System.out.println("promise " + promise + ": " + call + " answered " + got + ", due is " + want);
        }
    }

    private static int feedAll(NextOneKnows x, String text) {
        int many = 0;
        for (int k = 0; k < text.length(); k++) {
            many = x.feed(text.charAt(k));
        }
        return many;
    }

    private static int post(NextOneKnows x, String text) {
        feedAll(x, text);
        return x.post();
    }

    private static NextOneKnows with(String post) {
        NextOneKnows x = new NextOneKnows();
        int k = post(x, post);
        if (k != 0) {
            due("post of " + post, k, 0);
        }
        return x;
    }

    private static int postOf(String text) {
        return post(new NextOneKnows(), text);
    }

    public static void main(String[] args) {
        newObject();
        doings();
        ofs();
        flags();
        hours();
        feeds();
        posts();
        faults();
        tests();
        tolds();
        saids();
        hands();
        weeks();
        runs();
        splits();
        mores();
        asks();
        drops();
        whens();
        busiests();
        alls();
        lists();
        lookedAt();
        fits();
        chances();
        judged();
        images();
        acts();
        taken();
        counts();
        tapes();
        shifts();
        System.out.println(looked + " answers looked at, " + wrong + " wrong");
        if (wrong != 0) {
            System.exit(1);
        }
    }

    private static void newObject() {
        promise = 1;
        NextOneKnows x = new NextOneKnows();
        for (int what = 0; what < 6; what++) {
            due("count(" + what + ")", x.count(what), 0);
        }
        due("NO", NextOneKnows.NO, Long.MIN_VALUE);
        due("NONE", NextOneKnows.NONE, -1);
        due("BAD", NextOneKnows.BAD, -2);
        due("STATE", NextOneKnows.STATE, -3);
        due("FULL", NextOneKnows.FULL, -4);
        due("told(0)", x.told(0), 7);
        due("told(1)", x.told(1), 1);
        for (int what = 2; what < 6; what++) {
            due("told(" + what + ")", x.told(what), 0);
        }
        for (int y = 10; y < 14; y++) {
            due("told(" + y + ")", x.told(y), 0);
        }
        due("hand()", x.hand(), 0);
        due("busiest(200, 1)", x.busiest(200, 1), 0);
    }

    private static void doings() {
        promise = 2;
        NextOneKnows x = new NextOneKnows();
        due("kind -1", x.doing(-1, 10, 0, -1, -1, -1), -1);
        due("kind 7", x.doing(7, 0, 1, 0, 0, 0), -1);
        due("v -1", x.doing(0, -1, 1, 0, 0, 0), -2);
        due("v 10", x.doing(0, 10, 1, 0, 0, 0), -2);
        due("round 0", x.doing(0, 0, 0, 0, 0, 0), -2);
        due("round 61", x.doing(0, 0, 61, 0, 0, 0), -2);
        due("round least", x.doing(0, 0, Integer.MIN_VALUE, 0, 0, 0), -2);
        due("place -1", x.doing(0, 0, 5, -1, 0, 0), -2);
        due("place 5 of 5", x.doing(0, 0, 5, 5, 0, 0), -2);
        due("cost -1", x.doing(0, 0, 1, 0, -1, 0), -2);
        due("cost 100", x.doing(0, 0, 1, 0, 100, 0), -2);
        due("need -1", x.doing(0, 0, 1, 0, 0, -1), -2);
        due("need 100", x.doing(0, 0, 1, 0, 0, 100), -2);
        due("count(0)", x.count(0), 0);
        due("doing, all least", x.doing(0, 0, 1, 0, 0, 0), 0);
        due("doing, all most", x.doing(6, 9, 60, 59, 99, 99), 1);
        for (int d = 2; d < 10; d++) {
            due("doing " + d, x.doing(d % 7, d, d, d - 1, d, d), d);
        }
        due("an eleventh", x.doing(0, 0, 1, 0, 0, 0), -4);
        due("an eleventh, kind", x.doing(7, 0, 1, 0, 0, 0), -1);
        due("an eleventh, v", x.doing(0, 10, 1, 0, 0, 0), -2);
        due("count(0)", x.count(0), 10);
    }

    private static void ofs() {
        promise = 3;
        NextOneKnows x = with("say 2 y=0;say 3 y=1;say 5 y>1;cost 4 w=0;cost 7 w=1;cost 1 y=9");
        x.doing(4, 7, 30, 20, 55, 66);
        x.doing(0, 0, 1, 0, 0, 0);
        int[] want = {4, 7, 30, 20, 55, 66, 0, 0, 0, 0, 60, 5};
        for (int what = 0; what < want.length; what++) {
            due("of(0, " + what + ")", x.of(0, what), want[what]);
        }
        due("of(1, 9), SAID 0 and NEED 0", x.of(1, 9), 1);
        x.learn(0, true);
        x.needless(0, true);
        x.odds(0, 9);
        due("of(0, 6)", x.of(0, 6), 1);
        due("of(0, 7)", x.of(0, 7), 1);
        due("of(0, 11)", x.of(0, 11), 9);
        due("of(1, 6)", x.of(1, 6), 0);
        due("of(1, 7)", x.of(1, 7), 0);
        x.go(1);
        due("of(0, 10), a WEEK on", x.of(0, 10), 63);
        x.go(59);
        due("of(0, 10), 60 WEEKS on", x.of(0, 10), 60);
        NextOneKnows z = new NextOneKnows();
        z.doing(0, 0, 1, 0, 33, 1);
        due("of(0, 8) without a POST", z.of(0, 8), 0);
        due("of(0, 9) without a POST", z.of(0, 9), 0);
        due("of(0, 10) without a POST", z.of(0, 10), 33);
        due("of(2, 0)", x.of(2, 0), -10001);
        due("of(-1, 0)", x.of(-1, 0), -10001);
        due("of(0, -1)", x.of(0, -1), -10001);
        due("of(0, 12)", x.of(0, 12), -10001);
        saidByKinds();
    }

    /** SAID over all WAYS, by KIND, and whether it GOES OVER at its NEED. */
    private static void saidByKinds() {
        NextOneKnows x = with("say 2 y=0;say 3 y=1;say 5 y=2;say 7 y=3");
        int[][] hours = {{0, 0, 0, 0}, {4, 0, 0, 0}, {0, 4, 0, 0}, {0, 0, 4, 0}, {0, 0, 0, 4}, {1, 2, 3, 4}, {0, 0, 1, 0}};
        int[][] due = {
            {0, 0, 0, 0, 0, 0, -6},
            {8, 32, 0, 0, 32, 0, -6},
            {12, 12, 0, 0, 12, 48, -6},
            {20, 20, 20, 0, 26, 20, -6},
            {28, 28, 28, 28, 28, 28, 22},
            {51, 57, 43, 51, 63, 67, 45},
            {5, 5, 5, 0, 11, 5, -6}};
        for (int kind = 0; kind < 7; kind++) {
            x.doing(kind, 6, 1, 0, 0, 43);
        }
        for (int row = 0; row < hours.length; row++) {
            for (int y = 0; y < 4; y++) {
                x.hours(y, hours[row][y]);
            }
            for (int kind = 0; kind < 7; kind++) {
                due("SAID of KIND " + kind + " by row " + row, x.of(kind, 8), due[row][kind]);
                due("GOES OVER, KIND " + kind + " by row " + row, x.of(kind, 9), due[row][kind] >= 43 ? 1 : 0);
            }
        }
    }

    private static void flags() {
        NextOneKnows x = new NextOneKnows();
        x.doing(0, 0, 1, 0, 0, 0);
        x.doing(0, 0, 1, 0, 0, 0);
        promise = 4;
        due("needless(1, true)", x.needless(1, true), 0);
        due("needless(1, true)", x.needless(1, true), 1);
        due("of(0, 6)", x.of(0, 6), 0);
        due("needless(1, false)", x.needless(1, false), 1);
        due("needless(1, false)", x.needless(1, false), 0);
        due("needless(2, true)", x.needless(2, true), -1);
        due("needless(-1, true)", x.needless(-1, true), -1);
        promise = 5;
        due("learn(1, true)", x.learn(1, true), 0);
        due("learn(1, true)", x.learn(1, true), 1);
        due("of(0, 7)", x.of(0, 7), 0);
        due("count(5)", x.count(5), 1);
        due("learn(1, false)", x.learn(1, false), 1);
        due("learn(1, false)", x.learn(1, false), 0);
        due("learn(2, true)", x.learn(2, true), -1);
        due("learn(-1, true)", x.learn(-1, true), -1);
        due("count(5)", x.count(5), 0);
        promise = 6;
        due("odds(1, 10)", x.odds(1, 10), 5);
        due("odds(1, 0)", x.odds(1, 0), 10);
        due("odds(1, 3)", x.odds(1, 3), 0);
        due("odds(0, 5)", x.odds(0, 5), 5);
        due("odds(1, 11)", x.odds(1, 11), -2);
        due("odds(1, -1)", x.odds(1, -1), -2);
        due("odds(2, 11)", x.odds(2, 11), -1);
        due("odds(-1, 1)", x.odds(-1, 1), -1);
        due("of(1, 11)", x.of(1, 11), 3);
    }

    private static void hours() {
        promise = 7;
        NextOneKnows x = new NextOneKnows();
        for (int y = 0; y < 4; y++) {
            due("hours, first", x.hours(y, 9 - y), 0);
        }
        for (int y = 0; y < 4; y++) {
            due("told(10 + way)", x.told(10 + y), 9 - y);
            due("hours, again", x.hours(y, 0), 9 - y);
        }
        due("hours(-1, 0)", x.hours(-1, 0), -1);
        due("hours(4, 10)", x.hours(4, 10), -1);
        due("hours(0, -1)", x.hours(0, -1), -2);
        due("hours(0, 10)", x.hours(0, 10), -2);
        due("told(10)", x.told(10), 0);
    }

    private static void feeds() {
        promise = 8;
        NextOneKnows x = new NextOneKnows();
        due("feed(-1)", x.feed(-1), -2);
        due("feed(128)", x.feed(128), -2);
        due("feed(0)", x.feed(0), 1);
        due("feed(127)", x.feed(127), 2);
        for (int k = 3; k <= 100; k++) {
            due("feed " + k, x.feed('y'), k);
        }
        due("feed 101", x.feed('y'), -4);
        due("feed 101, bad", x.feed(128), -2);
        due("count(3)", x.count(3), 100);
        due("post()", x.post(), -10);
        due("count(3)", x.count(3), 0);
        due("feed(1)", x.feed(1), 1);
    }

    private static void posts() {
        promise = 9;
        NextOneKnows x = new NextOneKnows();
        for (int k = 0; k < 6; k++) {
            due("post of call " + k, post(x, "call " + (20 + k)), k);
            due("it holds", x.told(0), 20 + k);
            due("THE TEXT", x.count(3), 0);
            due("POSTS", x.count(1), k + 1);
            if (k < 5) {
                due("a text of no post", post(x, "call 1;say 1 y="), -25);
                due("the one that held holds", x.told(0), 20 + k);
                due("THE TEXT", x.count(3), 0);
                due("POSTS", x.count(1), k + 1);
            }
        }
    }

    private static void faults() {
        promise = 9;
        NextOneKnows x = new NextOneKnows();
        for (int k = 0; k < 6; k++) {
            post(x, "fade 2");
        }
        feedAll(x, "call 3");
        due("a seventh", x.post(), -4);
        due("THE TEXT stays", x.count(3), 6);
        due("the sixth holds", x.told(0), 7);
        String[] whole = {"call 3", "fade 03", "say 1 y=1", "cost 99 w>59", "say 0 i<1|k=2&r>3", "say 1 !!!!v=1",
            "say 1 ((((c=1))))", "say 1 !(!(y=1)&(w=1))|(((!y=1)))", "call 1;call 2", "say 1 (y=1)&(y=2)|!(y=3)",
            "say 1 !(y=1|y=2)&!(!(y=3))", "call 0;call 1;call 2;call 3;call 4;call 5;call 6;call 7;call 8;call 9"};
        for (String text : whole) {
            due("post of " + text, postOf(text), 0);
            for (int k = 0; k < text.length(); k++) {
                String ahead = text.substring(0, k);
                boolean ends = ahead.matches(".*(call|fade) \\d+") || ahead.matches(".*[ikrvcyw][<=>]\\d+\\)*")
                        && ahead.chars().filter(c -> c == '(').count() == ahead.chars().filter(c -> c == ')').count();
                due("post of " + ahead, postOf(ahead), ends ? 0 : -10 - k);
            }
        }
        // Behind the ~: the sign with which none begins so, or the end.
        String[] faulty = {"~", "~ call 1", "~x", "~Say 1 y=1", "~;call 1", "~0", "s~ey", "c~ll 1", "co~ll 1", "ca~st 1 y=1",
            "cal~i", "fad~3", "say~1", "say~", "say ~y=1", "say 1~y=1", "say ~ 1", "say 12~3 y=1", "say 1 ~", "say 1 ~1",
            "say 1~", "say 1 ~ y=1", "say 1 y~y", "say 1 y~ =1", "say 1 y=~y", "say 1 y=12~3", "say 1 y=1~)", "say 1 (y=1)~)",
            "say 1 (y=1~;", "say 1 ~;", "say 1 ~q=1", "say 1 ~&", "say 1 y~!1", "say 1 y=1~!y=1", "say 1 y=1~y=1",
            "say 1 ((((~(y=1)))))", "say 1 !!!!~!y=1", "say 1 !(!(~!y=1))", "say 1 !(!(~(y=1)))", "say 1 (!((~(",
            "say 1 (y=1)&((((~(y=1", "say 1 !y=1|!!!!~!", "say 1 (((~)", "say 1 y=1&~&", "say 1 y=1|~|", "say 1 y=1~ ",
            "call 1~x", "call 12~3", "call 12~ ", "call 1~ ", "fade 1~ y=1", "call 1;~", "call 1;~;", "call 1~,",
            "call 1;~ call 1", "call ~-1", "call ~", "fade ~", "say 1 y=~", "say 1 y~", "say 1 (y=1~", "say 1 y=1&~",
            "say 1 y=1|~", "say 1 !~", "say 1 (~", "say 1 y<~=1", "say 1 y=~-1", "cost 5~", "cost 5~;call 1", "call 1~\n",
            "call 0;call 1;call 2;call 3;call 4;call 5;call 6;call 7;call 8;call 9~;call 1",
            "call 0;call 1;call 2;call 3;call 4;call 5;call 6;call 7;call 8;say 9 y=9~;"};
        for (String text : faulty) {
            int at = text.indexOf('~');
            String told = text.substring(0, at) + text.substring(at + 1);
            due("post of " + told, postOf(told), -10 - at);
        }
        StringBuilder full = new StringBuilder("say 1 y=1");
        while (full.length() < 97) {
            full.append("|y=1");
        }
        due("a post of 97 signs", postOf(full.toString()), 0);
        due("a post of 100 signs", postOf(full + ";sa"), -110);
        tenClauses();
        manyFaults();
    }

    private static void tenClauses() {
        StringBuilder ten = new StringBuilder("say 1 y=0");
        for (int k = 1; k < 10; k++) {
            ten.append(";say 1 y=0");
        }
        NextOneKnows x = with(ten.toString());
        x.doing(0, 0, 1, 0, 0, 0);
        due("ten CLAUSES hold", x.said(0, 0), 10);
        due("ten CLAUSES hold not", x.said(0, 1), 0);
    }

    /** What was read of a text that is no POST leaves nothing behind. */
    private static void manyFaults() {
        NextOneKnows x = new NextOneKnows();
        x.doing(0, 0, 1, 0, 0, 0);
        for (int k = 0; k < 5; k++) {
            due("a FAULT at the end", post(x, "call 2;fade 3;say 1 y=1|y=1|y=1|y=1|y=1|y=1|y=1|y=1|y=1|y=1|y=1|y=1|y=1|y="), -84);
        }
        due("a POST behind them", post(x, "say 1 y=1|y=2|y=3|y=4|y=5|y=6|y=7|y=8|!y=0;say 4 y=1"), 0);
        due("said(0, 0)", x.said(0, 0), 0);
        due("said(0, 1)", x.said(0, 1), 5);
        due("said(0, 3)", x.said(0, 3), 1);
        due("told(0)", x.told(0), 7);
        due("told(1)", x.told(1), 1);
    }

    /** What E's hold: each letter, each sign, and how they bind. */
    private static void tests() {
        promise = 9;
        String[] holding = {"i=1", "i>0", "i<2", "k=5", "r=30", "r<31", "r>29", "v=8", "c=4", "c<5", "c>3", "y=2", "y>1",
            "y<3", "w=0", "w<1", "y=02", "!y=1", "!!y=2", "(y=2)", "!(y=1)", "y=1|y=2", "y=2|y=1", "y=2&i=1",
            "y=1&i=1|k=5", "k=5|i=1&y=1", "!y=1&k=5", "!(y=2&y=1)", "(y=1|y=2)&(k=5|k=6)", "!(y=1|!(y=2&i=1))",
            "y=1|y=3|y=2", "i=1&k=5&r=30&v=8", "!y=2|y=2"};
        String[] not = {"i=0", "i>1", "i<1", "k=4", "r=29", "r<30", "r>30", "v=7", "c=5", "c<4", "c>4", "c=45", "y=1", "y>2",
            "y<2", "w=1", "w>0", "y=9", "!y=2", "!(y=2)", "!!y=1", "y=1|y=3", "y=2&i=0", "y=1&(i=1|k=5)", "(k=5|i=1)&y=1",
            "!(y=1|k=5)", "!y=2&k=5", "!y=2|y=1", "y=2&!k=5", "y=2&k=5&r=1", "(y=1|y=2)&(k=4|k=6)"};
        for (String e : holding) {
            due("say 3 " + e, saidOf(e), 3);
        }
        for (String e : not) {
            due("say 3 " + e, saidOf(e), 0);
        }
        NextOneKnows x = with("say 1 c=1;say 2 c=9;say 4 c=0");
        int[][] costs = {{0, 4}, {9, 4}, {10, 1}, {19, 1}, {20, 0}, {89, 0}, {90, 2}, {99, 2}};
        for (int d = 0; d < costs.length; d++) {
            x.doing(0, 0, 1, 0, costs[d][0], 0);
            due("said by COST " + costs[d][0], x.said(d, 0), costs[d][1]);
        }
    }

    private static int saidOf(String e) {
        NextOneKnows x = with("say 3 " + e);
        x.doing(0, 0, 1, 0, 0, 0);
        x.doing(5, 8, 30, 29, 45, 0);
        x.go(30);
        return x.said(1, 2);
    }

    private static void tolds() {
        promise = 10;
        NextOneKnows x = with("call 3;fade 2;call 12;fade 0");
        due("told(0)", x.told(0), 12);
        due("told(1)", x.told(1), 0);
        x.doing(0, 0, 2, 1, 30, 99);
        x.doing(6, 9, 2, 1, 20, 99);
        x.go(2);
        due("told(2)", x.told(2), 2);
        due("told(3)", x.told(3), 2);
        due("told(4)", x.told(4), 2);
        due("told(5)", x.told(5), 2);
        due("another post", post(x, "call 0"), 1);
        due("told(1)", x.told(1), 1);
        x.go(2);
        due("told(3)", x.told(3), 22);
        due("told(4)", x.told(4), 3);
        due("told(5)", x.told(5), 2);
        due("told(-1)", x.told(-1), -1);
        due("told(6)", x.told(6), -1);
        due("told(9)", x.told(9), -1);
        due("told(14)", x.told(14), -1);
    }

    private static void saids() {
        promise = 11;
        NextOneKnows x = new NextOneKnows();
        x.doing(0, 0, 1, 0, 0, 0);
        due("said without a POST", x.said(0, 0), 0);
        post(x, "say 3 y=0;say 4 y<2;cost 50 y<4;say 9 w=0&y=3;say 90 w>0");
        due("said(0, 0)", x.said(0, 0), 7);
        due("said(0, 1)", x.said(0, 1), 4);
        due("said(0, 2)", x.said(0, 2), 0);
        due("said(0, 3)", x.said(0, 3), 9);
        x.go(5);
        due("said(0, 3) in another WEEK", x.said(0, 3), 9);
        due("said(1, 0)", x.said(1, 0), -1);
        due("said(-1, 0)", x.said(-1, 0), -1);
        due("said(0, 4)", x.said(0, 4), -1);
        due("said(0, -1)", x.said(0, -1), -1);
    }

    private static void hands() {
        promise = 12;
        NextOneKnows x = with("say 5 y=0");
        x.doing(0, 0, 1, 0, 0, 10);
        x.doing(0, 0, 1, 0, 0, 11);
        x.doing(2, 0, 1, 0, 0, 1);
        x.doing(1, 1, 1, 0, 0, 12);
        x.learn(2, true);
        x.needless(3, true);
        x.hours(0, 2);
        due("hand()", x.hand(), 2);
        due("of(0, 7)", x.of(0, 7), 1);
        due("of(1, 7)", x.of(1, 7), 0);
        due("of(2, 7)", x.of(2, 7), 1);
        due("of(3, 7)", x.of(3, 7), 1);
        due("hand()", x.hand(), 0);
        x.hours(0, 0);
        due("hand()", x.hand(), 0);
        due("count(5)", x.count(5), 3);
    }

    private static void weeks() {
        promise = 13;
        NextOneKnows x = new NextOneKnows();
        due("go(0)", x.go(0), -2);
        due("go(61)", x.go(61), -2);
        due("go(-1)", x.go(-1), -2);
        due("go(1)", x.go(1), 1);
        for (int week = 61; week < 9999; week += 60) {
            due("go(60)", x.go(60), week);
        }
        due("WEEK", x.told(2), 9961);
        due("go(39)", x.go(39), -3);
        due("go(61)", x.go(61), -2);
        due("go(38)", x.go(38), 9999);
        due("go(1)", x.go(1), -3);
        due("WEEK", x.told(2), 9999);
        due("run over the end", x.run(200, 4), -5);
        callsByWeeks();
        knownByStops();
    }

    /** call 3, fade 1: three calls in WEEK 0, two in WEEK 1, one in WEEK 2, then none. */
    private static void callsByWeeks() {
        NextOneKnows x = with("call 3");
        for (int d = 0; d < 5; d++) {
            x.doing(6, 1, 1, 0, 10, 99);
        }
        int[] costs = {23, 55, 96, 146, 196};
        int[] calls = {3, 5, 6, 6, 6};
        for (int week = 0; week < 5; week++) {
            x.go(1);
            due("COSTS, WEEK " + week, x.told(3), costs[week]);
            due("STOPS, WEEK " + week, x.told(4), 5 * week + 5);
            due("CALLS, WEEK " + week, x.told(5), calls[week]);
        }
        due("WRONG ones are not KNOWN by a CALL", x.count(5), 0);
        NextOneKnows z = with("call 1;fade 0;cost 4 w=1;cost 2 i=1");
        z.doing(0, 0, 1, 0, 10, 99);
        z.doing(0, 0, 1, 0, 20, 99);
        z.doing(0, 0, 1, 0, 30, 99);
        z.needless(2, true);
        z.go(1);
        due("a CALL, and a STOP", z.told(3), 23);
        due("KNOWN by a CALL", z.of(0, 7), 1);
        due("not KNOWN by a STOP", z.of(1, 7), 0);
        z.learn(2, true);
        z.go(1);
        due("a CALL, and one NEEDLESS and KNOWN", z.told(3), 25);
        due("STOPS", z.told(4), 3);
        z.learn(1, false);
        z.go(1);
        due("a CALL again", z.told(3), 27);
        due("CALLS", z.told(5), 3);
    }

    /** By a STOP that is no CALL: RARE (or under it) with v 0, PLAIN (or under it) with v above 4. */
    private static void knownByStops() {
        for (int kind = 0; kind < 7; kind++) {
            for (int v = 0; v < 10; v++) {
                NextOneKnows x = with("call 0");
                x.doing(kind, v, 1, 0, 10, 99);
                x.go(1);
                boolean known = (kind == 3 || kind == 6) && v == 0 || (kind == 2 || kind == 5) && v > 4;
                due("KIND " + kind + ", v " + v, x.of(0, 7), known ? 1 : 0);
                due("COSTS", x.told(3), 10);
                NextOneKnows z = with("call 1");
                z.doing(kind, v, 1, 0, 10, 99);
                z.go(1);
                due("by a CALL, KIND " + kind + ", v " + v, z.of(0, 7), kind == 6 ? 0 : 1);
                due("COSTS", z.told(3), 1);
            }
        }
    }

    private static void runs() {
        promise = 14;
        NextOneKnows x = with("call 9;fade 1;cost 5 w=12");
        x.doing(0, 0, 4, 2, 10, 99);
        x.doing(6, 0, 6, 3, 20, 99);
        x.doing(0, 0, 60, 12, 40, 99);
        x.learn(0, true);
        int[][] due = {{0, 0, 0, 1, -5, -5}, {0, 0, 0, 1, -5, -5}, {1, 1, 1, 1, 3, 1}, {21, 2, 1, 2, 3, 1}, {201, 6, 1, 2, 3, 1}};
        int[] n = {0, 3, 4, 10, 200};
        for (int row = 0; row < n.length; row++) {
            for (int what = 0; what < 6; what++) {
                due("run(" + n[row] + ", " + what + ")", x.run(n[row], what), due[row][what]);
            }
        }
        due("run changes nothing", x.told(2) + x.told(3) + x.told(4) + x.told(5), 0);
        due("run changes nothing", x.count(5), 1);
        due("run(-1, 0)", x.run(-1, 0), -10002);
        due("run(201, 5)", x.run(201, 5), -10002);
        due("run(201, 6)", x.run(201, 6), -10001);
        due("run(1, -1)", x.run(1, -1), -10001);
        x.go(10);
        due("run(5, 0), later", x.run(5, 0), 45);
        due("run(5, 1), later", x.run(5, 1), 1);
        due("run(5, 4), later", x.run(5, 4), 12);
        due("run(5, 5), later", x.run(5, 5), 2);
    }

    private static void splits() {
        promise = 15;
        NextOneKnows x = with("call 0;say 3 y=0&i=0;say 3 y=1&i=1;say 1 y=2;say 1 y=3&i=2");
        x.doing(0, 0, 1, 0, 10, 6);
        x.doing(0, 0, 1, 0, 10, 6);
        x.doing(3, 1, 5, 4, 99, 5);
        due("split(0, 10, -1)", x.split(0, 10, -1), 398);
        int[] best = {2, 2, 0, 0};
        due("split(4, 4, -1)", x.split(4, 4, -1), 0);
        for (int y = 0; y < 4; y++) {
            due("split(4, 4, " + y + ")", x.split(4, 4, y), best[y]);
        }
        int[] nine = {0, 0, 6, 3};
        due("split(9, 60, -1)", x.split(9, 60, -1), 0);
        for (int y = 0; y < 4; y++) {
            due("split(9, 60, " + y + ")", x.split(9, 60, y), nine[y]);
        }
        int[] least = {0, 0, 0, 5};
        for (int y = 0; y < 4; y++) {
            due("split(5, 0, " + y + "), all cost the same", x.split(5, 0, y), least[y]);
        }
        due("HOURS stay", x.told(10) + x.told(11) + x.told(12) + x.told(13), 0);
        due("nobody learned", x.count(5), 0);
        x.hours(0, 9);
        due("in place of those told", x.split(2, 1, -1), 10);
        x.learn(0, true);
        due("what HE KNOWS stays known", x.split(2, 1, -1), 0);
        due("split(2, 1, 0)", x.split(2, 1, 0), 0);
        due("split(2, 1, 1)", x.split(2, 1, 1), 2);
        due("split(10, 1, 0)", x.split(10, 1, 0), -10002);
        due("split(-1, 1, 0)", x.split(-1, 1, 0), -10002);
        due("split(1, 61, 0)", x.split(1, 61, 0), -10002);
        due("split(1, -1, 0)", x.split(1, -1, 0), -10002);
        due("split(10, 61, 4)", x.split(10, 61, 4), -10001);
        due("split(10, 61, -2)", x.split(10, 61, -2), -10001);
    }

    private static void mores() {
        promise = 16;
        NextOneKnows x = with("call 0;say 3 y=0;say 1 y=1");
        x.doing(0, 0, 2, 0, 10, 6);
        x.hours(0, 1);
        due("more(0, 6)", x.more(0, 6), 30);
        due("more(1, 6)", x.more(1, 6), 0);
        due("more(0, 0)", x.more(0, 0), 0);
        x.hours(1, 2);
        due("more(1, 60)", x.more(1, 60), 300);
        x.hours(1, 0);
        due("more(1, 60), one is too few", x.more(1, 60), 0);
        NextOneKnows z = with("call 0;say 3 y=3");
        z.doing(0, 0, 2, 0, 10, 7);
        z.hours(3, 1);
        due("more(3, 6), one is too few", z.more(3, 6), 0);
        z.hours(3, 2);
        due("more(3, 6)", z.more(3, 6), 30);
        z.hours(3, 8);
        due("more(3, 6), 8 already", z.more(3, 6), 0);
        x.needless(0, true);
        due("more(0, 6), KNOWN and NEEDLESS cost more", x.more(0, 6), -3);
        x.hours(1, 9);
        due("more(1, 6), 9 already", x.more(1, 6), 0);
        due("more(1, 61), 9 already", x.more(1, 61), -10002);
        due("HOURS stay", x.told(10), 1);
        due("nobody learned", x.count(5), 0);
        due("more(4, 61)", x.more(4, 61), -10001);
        due("more(-1, 1)", x.more(-1, 1), -10001);
        due("more(0, 61)", x.more(0, 61), -10002);
        due("more(0, -1)", x.more(0, -1), -10002);
    }

    private static void asks() {
        promise = 17;
        NextOneKnows x = with("call 0;say 9 y=0");
        due("ask, no DOINGS", x.ask(5), -5);
        x.doing(0, 0, 3, 0, 10, 9);
        x.doing(0, 0, 2, 1, 10, 9);
        x.doing(0, 0, 2, 0, 10, 9);
        x.doing(0, 0, 9, 8, 70, 9);
        x.hours(0, 9);
        due("ask(6): none is handed over", x.ask(6), 1);
        due("ask(0): the least", x.ask(0), 0);
        due("ask(1)", x.ask(1), 0);
        due("ask(9)", x.ask(9), 3);
        x.learn(1, true);
        due("ask(6)", x.ask(6), 2);
        x.needless(2, true);
        due("ask(6): that NEEDLESS one would cost", x.ask(6), 0);
        x.learn(0, true);
        due("ask(6)", x.ask(6), 3);
        x.learn(3, true);
        due("ask(6): the last", x.ask(6), 2);
        x.learn(2, true);
        due("ask(6): HE KNOWS all", x.ask(6), -5);
        due("ask(60)", x.ask(60), -5);
        due("ask(61)", x.ask(61), -2);
        due("ask(-1)", x.ask(-1), -2);
        due("ask changes nothing", x.count(5), 4);
    }

    private static void drops() {
        promise = 18;
        NextOneKnows x = with("call 0");
        due("drop, no DOINGS", x.drop(5), -5);
        x.doing(0, 0, 3, 0, 10, 9);
        x.doing(0, 0, 2, 1, 10, 9);
        x.doing(0, 0, 2, 0, 10, 9);
        x.doing(0, 0, 9, 8, 70, 9);
        due("drop(6)", x.drop(6), 1);
        due("drop(0)", x.drop(0), 0);
        due("drop(9)", x.drop(9), 3);
        x.learn(0, true);
        x.needless(1, true);
        due("drop(6)", x.drop(6), 2);
        x.needless(2, true);
        due("drop(6): a KNOWN one would cost", x.drop(6), 3);
        x.needless(3, true);
        due("drop(6): the last", x.drop(6), 0);
        x.needless(0, true);
        due("drop(6): none", x.drop(6), -5);
        due("drop(61)", x.drop(61), -2);
        due("drop(-1)", x.drop(-1), -2);
        due("drop changes nothing", x.needless(0, false), 1);
    }

    private static void whens() {
        promise = 19;
        NextOneKnows x = new NextOneKnows();
        x.doing(0, 0, 7, 3, 0, 0);
        x.doing(0, 0, 1, 0, 0, 0);
        int[] due = {3, 3, 3, 3, 10, 10, 10, 10, 10, 10, 10, 17};
        for (int week = 0; week < due.length; week++) {
            due("when(0) in " + week, x.when(0), due[week]);
            due("when(1) in " + week, x.when(1), week);
            x.go(1);
        }
        due("when(2)", x.when(2), -1);
        due("when(-1)", x.when(-1), -1);
    }

    private static void busiests() {
        promise = 20;
        NextOneKnows x = new NextOneKnows();
        x.doing(0, 0, 3, 2, 0, 0);
        x.doing(0, 0, 4, 1, 0, 0);
        x.doing(0, 0, 5, 0, 0, 0);
        x.needless(0, true);
        x.learn(1, true);
        due("busiest(1, 0)", x.busiest(1, 0), 0);
        due("busiest(1, 1)", x.busiest(1, 1), 1);
        due("busiest(5, 0)", x.busiest(5, 0), 0);
        due("busiest(6, 0)", x.busiest(6, 0), 5);
        due("busiest(6, 1)", x.busiest(6, 1), 3);
        due("busiest(200, 0)", x.busiest(200, 0), 5);
        x.go(6);
        due("busiest(59, 0)", x.busiest(59, 0), 17);
        due("busiest(59, 1)", x.busiest(59, 1), 2);
        due("busiest(60, 0)", x.busiest(60, 0), 65);
        due("busiest(60, 1)", x.busiest(60, 1), 3);
        due("busiest(0, 0)", x.busiest(0, 0), -2);
        due("busiest(201, 1)", x.busiest(201, 1), -2);
        due("busiest(201, 2)", x.busiest(201, 2), -1);
        due("busiest(1, -1)", x.busiest(1, -1), -1);
    }

    private static void alls() {
        promise = 21;
        NextOneKnows x = new NextOneKnows();
        x.doing(0, 0, 60, 0, 0, 0);
        x.doing(0, 0, 59, 1, 0, 0);
        x.doing(0, 0, 60, 59, 0, 0);
        x.doing(0, 0, 58, 57, 0, 0);
        x.needless(0, true);
        due("all(1)", x.all(1), 0);
        due("all(2)", x.all(2), 1);
        due("all(3)", x.all(3), 60);
        due("all(5)", x.all(5), -5);
        due("all(6)", x.all(6), 119);
        due("all(12)", x.all(12), 1739);
        due("all(0)", x.all(0), -2);
        due("all(16)", x.all(16), -2);
        due("all(17)", x.all(17), -2);
        due("all(-1)", x.all(-1), -2);
        due("all(least)", x.all(Integer.MIN_VALUE), -2);
        x.go(1);
        due("all(1), a WEEK on", x.all(1), 59);
        due("all(3), a WEEK on", x.all(3), 59);
        x.go(60);
        due("all(3), just past", x.all(3), 3539);
        NextOneKnows z = new NextOneKnows();
        z.doing(0, 0, 60, 0, 0, 0);
        z.doing(0, 0, 59, 0, 0, 0);
        z.doing(0, 0, 60, 1, 0, 0);
        z.doing(0, 0, 59, 2, 0, 0);
        due("all(3) now", z.all(3), 0);
        z.go(1);
        due("all(3) in 3539", z.all(3), 3539);
        due("all of rounds 60 and 59", z.all(9), allSlow(60, 0, 59, 2, 1));
        NextOneKnows edge = new NextOneKnows();
        edge.doing(0, 0, 59, 3600 % 59, 0, 0);
        edge.doing(0, 0, 60, 0, 0, 0);
        edge.doing(0, 0, 58, 3600 % 58, 0, 0);
        edge.doing(0, 0, 60, 1, 0, 0);
        edge.doing(0, 0, 59, 3601 % 59, 0, 0);
        edge.doing(0, 0, 58, 3601 % 58, 0, 0);
        due("all in 3600", edge.all(7), 3600);
        due("all in 3601", edge.all(56), -5);
        edge.go(1);
        due("all in 3600, a WEEK on", edge.all(56), 3600);
    }

    private static int allSlow(int round, int place, int otherRound, int otherPlace, int week) {
        for (int on = 0; on <= 3600; on++) {
            if ((week + on) % round == place && (week + on) % otherRound == otherPlace) {
                return on;
            }
        }
        return -5;
    }

    private static void lists() {
        promise = 22;
        NextOneKnows x = new NextOneKnows();
        x.doing(0, 0, 1, 0, 0, 0);
        due("list(-2, 0)", x.list(-2, 0), -2);
        due("list(100, 1)", x.list(100, 1), -2);
        due("list(0, 1)", x.list(0, 1), -1);
        due("list(0, -1)", x.list(0, -1), -1);
        for (int k = 1; k <= 12; k++) {
            due("list, row " + k, x.list(k == 12 ? 99 : 0, 0), k);
        }
        due("list, a 13th", x.list(0, 0), -4);
        due("list(100, 0)", x.list(100, 0), -2);
        due("list(0, 1)", x.list(0, 1), -1);
        due("count(2)", x.count(2), 12);
        due("list(-1, 77)", x.list(-1, 77), 0);
        due("count(2)", x.count(2), 0);
        due("list(-1, 0)", x.list(-1, 0), 0);
        due("list(5, 0)", x.list(5, 0), 1);
    }

    private static void lookedAt() {
        promise = 23;
        NextOneKnows x = with("call 0");
        due("looked, no rows", x.looked(), -5);
        x.doing(0, 0, 3, 2, 9, 9);
        x.doing(0, 0, 49, 0, 9, 9);
        x.doing(3, 0, 11, 0, 9, 9);
        x.list(2, 0);
        x.list(98, 0);
        x.list(49, 1);
        due("looked, all so", x.looked(), -5);
        x.list(0, 2);
        due("looked, all so", x.looked(), -5);
        x.list(11, 2);
        due("looked: KNOWN by then", x.looked(), 4);
        x.list(3, 0);
        due("looked: the first", x.looked(), 4);
        x.learn(1, true);
        due("looked: KNOWN", x.looked(), 2);
        x.needless(0, true);
        due("looked: NEEDLESS", x.looked(), 0);
        NextOneKnows z = with("call 0");
        z.doing(0, 0, 1, 0, 9, 9);
        z.go(3);
        z.list(0, 0);
        z.list(99, 0);
        due("looked, WEEKS on from now", z.looked(), -5);
        z.go(1);
        due("looked: that WEEK is gone", z.looked(), 0);
        z.list(-1, 0);
        z.list(99, 0);
        due("looked", z.looked(), -5);
        due("looked changes nothing", z.told(2), 4);
    }

    private static void fits() {
        promise = 24;
        NextOneKnows x = with("call 1;fade 0");
        due("fits, nothing told", x.fits(), 1);
        x.doing(0, 0, 2, 0, 9, 9);
        x.doing(0, 0, 2, 0, 9, 9);
        x.doing(0, 0, 2, 0, 9, 9);
        due("fits, no rows", x.fits(), 8);
        x.learn(0, true);
        due("fits, whatever HE KNOWS", x.fits(), 8);
        x.list(0, 1);
        due("fits: not KNOWN at first", x.fits(), 4);
        x.list(2, 1);
        due("fits: the CALL is for 0", x.fits(), 2);
        x.list(4, 1);
        due("fits: KNOWN by then", x.fits(), 0);
        due("count(5)", x.count(5), 1);
        x.list(-1, 0);
        x.needless(2, true);
        x.list(2, 2);
        due("fits: NEEDLESS", x.fits(), 0);
        x.list(-1, 0);
        for (int d = 3; d < 8; d++) {
            x.doing(0, 0, 1, 0, 1, 1);
        }
        due("fits of 8 DOINGS", x.fits(), 256);
        x.doing(0, 0, 1, 0, 1, 1);
        due("fits of 9 DOINGS", x.fits(), -9);
        x.doing(0, 0, 1, 0, 1, 1);
        due("fits of 10 DOINGS", x.fits(), -9);
    }

    private static void chances() {
        promise = 25;
        NextOneKnows x = new NextOneKnows();
        chance(x, 60, 1, 1);
        x.doing(0, 0, 1, 0, 0, 0);
        x.doing(6, 0, 60, 59, 0, 0);
        x.doing(0, 0, 60, 30, 0, 0);
        x.learn(0, true);
        chance(x, 0, 1, 1);
        chance(x, 1, 1, 2);
        x.odds(0, 6);
        x.odds(1, 3);
        x.odds(2, 10);
        chance(x, 59, 3, 5);
        chance(x, 60, 9, 50);
        x.needless(0, true);
        chance(x, 60, 3, 10);
        x.odds(1, 0);
        chance(x, 60, 0, 1);
        x.odds(1, 10);
        chance(x, 60, 1, 1);
        due("chance(61, 0)", x.chance(61, 0), NextOneKnows.NO);
        due("chance(-1, 0)", x.chance(-1, 0), NextOneKnows.NO);
        due("chance(1, 2)", x.chance(1, 2), NextOneKnows.NO);
        due("chance(1, -1)", x.chance(1, -1), NextOneKnows.NO);
        NextOneKnows z = new NextOneKnows();
        for (int d = 0; d < 10; d++) {
            z.doing(0, 0, 1, 0, 0, 0);
            z.odds(d, 9);
        }
        chance(z, 1, 3486784401L, 10000000000L);
        for (int d = 0; d < 10; d++) {
            z.odds(d, 1);
        }
        chance(z, 1, 1, 10000000000L);
    }

    private static void chance(NextOneKnows x, int n, long above, long below) {
        due("chance(" + n + ", 0)", x.chance(n, 0), above);
        due("chance(" + n + ", 1)", x.chance(n, 1), below);
    }

    private static void judged() {
        promise = 26;
        NextOneKnows x = new NextOneKnows();
        due("judge(6, 0)", x.judge(6, 0), -1);
        due("judge(-1, 0)", x.judge(-1, 0), -1);
        due("judge, none to look at", x.judge(0, 0), -5);
        x.tape(0, 0, 5);
        due("judge, bytes, none to look at", x.judge(0, 0), -12);
        x.tape(0, 4, 5);
        due("judge, none to look at", x.judge(0, 5), -5);
        for (int d = 0; d < 3; d++) {
            x.doing(0, 0, 1, 0, 0, 0);
        }
        x.learn(1, true);
        due("judge, place 0", x.judge(0, 0), 1);
        x.item(0, 1, 1);
        due("judge, place 0", x.judge(0, 0), -5);
        due("judge, place 1", x.judge(0, 1), 0);
        x.item(0, 4, 7);
        due("judge, place 3: the row ends", x.judge(0, 3), 102);
        due("judge, place 4", x.judge(0, 4), 0);
        due("judge, place 5", x.judge(0, 5), 100);
        due("judge, place most", x.judge(0, Integer.MAX_VALUE), 100);
        due("judge, place -1", x.judge(0, -1), 100);
        due("judge, place least", x.judge(0, Integer.MIN_VALUE), 100);
        due("judge, nothing there", x.judge(1, 0), 100);
        for (int sort = 0; sort < 4; sort++) {
            x.tape(2, sort, 5);
            due("judge, sort " + sort, x.judge(2, 0), -12);
            due("judge, sort " + sort + ", place -1", x.judge(2, -1), -12);
        }
        x.tape(2, -1, 5);
        due("judge, nothing there any more", x.judge(2, 0), 100);
        x.tape(2, 4, 0);
        due("judge, a row of none", x.judge(2, 0), 100);
    }

    private static void images() {
        promise = 28;
        NextOneKnows x = with("call 0;say 1 y=0");
        due("undo, no image", x.undo(), -3);
        x.doing(6, 1, 2, 0, 10, 5);
        x.doing(0, 2, 3, 1, 20, 6);
        x.learn(1, true);
        x.needless(0, false);
        x.odds(0, 2);
        x.hours(2, 4);
        x.list(7, 0);
        x.go(3);
        x.list(-1, 0);
        x.list(9, 0);
        x.list(11, 0);
        promise = 27;
        due("image", x.image(), 2);
        due("image changes nothing", x.told(2), 3);
        promise = 28;
        x.doing(5, 1, 1, 0, 1, 1);
        x.learn(0, true);
        x.learn(1, false);
        x.learn(2, true);
        x.needless(1, true);
        x.odds(0, 9);
        x.hours(2, 1);
        x.list(-1, 0);
        x.list(1, 1);
        x.list(2, 1);
        x.list(3, 1);
        x.go(5);
        post(x, "call 90;say 2 y=0");
        x.learn(0, false);
        x.go(2);
        feedAll(x, "ab");
        x.tape(0, 3, 4);
        x.act(0, 0, 1);
        due("undo", x.undo(), 2);
        due("DOINGS", x.count(0), 2);
        due("DOING 2", x.of(2, 0), -10001);
        int[] first = {6, 1, 2, 0, 10, 5, 0, 0, -1, 0, 10, 2}, second = {0, 2, 3, 1, 20, 6, 0, 1, 0, 0, 20, 5};
        for (int what = 0; what < 12; what++) {
            due("of(0, " + what + ")", x.of(0, what), first[what]);
            due("of(1, " + what + ")", x.of(1, what), second[what]);
        }
        int[] told = {0, 1, 3, 20, 2, 0};
        for (int what = 0; what < 6; what++) {
            due("told(" + what + ")", x.told(what), told[what]);
        }
        due("HOURS", x.told(12), 4);
        due("the LIST", x.count(2), 2);
        due("the LIST's rows", x.looked(), -5);
        due("which POST holds", x.said(0, 0), 1);
        due("POSTS stay", x.count(1), 2);
        due("THE TEXT stays", x.count(3), 2);
        due("THE TRACE stays", x.trace(0), 71);
        due("TAPES stay", x.read(0, 3), 0);
        due("a POST more", x.post(), -10);
        due("a POST more", post(x, "call 4"), 2);
        due("a DOING more is new", x.doing(0, 0, 1, 0, 0, 0), 2);
        due("a DOING more is not KNOWN", x.of(2, 7), 0);
        due("a DOING more has odds 5", x.of(2, 11), 5);
        due("undo again", x.undo(), 2);
        due("which POST holds", x.told(0), 0);
        due("a row more", x.list(0, 1), 3);
        due("looked: the rows of the image are so, that one is not", x.looked(), 2);
        NextOneKnows z = new NextOneKnows();
        due("image of nothing", z.image(), 0);
        post(z, "call 3");
        z.doing(0, 0, 1, 0, 0, 0);
        due("undo to nothing", z.undo(), 0);
        due("no POST holds", z.told(0), 7);
        z.doing(0, 0, 1, 0, 0, 0);
        due("a newer image", z.image(), 1);
        z.doing(0, 0, 1, 0, 0, 0);
        due("undo to the newer", z.undo(), 1);
    }

    private static void acts() {
        NextOneKnows x = new NextOneKnows();
        for (int kind = 0; kind < 7; kind++) {
            x.doing(kind, 9 - kind, 1, 0, 0, 0);
        }
        // i = KIND, v = 9 - KIND, x = 10: by KIND what it says, holds, tells, and the bodies that ran.
        act(x, 0, 0, 10, 10);
        act(x, 0, 1, 1, 11, 10);
        act(x, 0, 2, 2, 12, 11, 10);
        act(x, 1, 0, 11, 10);
        act(x, 1, 1, 3 ^ 6, 20, 11, 10);
        act(x, 1, 2, 10, 12, 20, 11, 10);
        act(x, 2, 0, 32, 30, 10);
        act(x, 2, 1, 25, 11, 30, 10);
        act(x, 2, 2, 50, 12, 11, 30, 10);
        act(x, 3, 0, 13, 10);
        act(x, 3, 1, 7, 11, 10);
        act(x, 3, 2, 12, 40, 12, 11, 10, 11, 10);
        act(x, 4, 0, -14, 50, 10);
        act(x, 4, 1, -20 ^ 6, 51, 20, 11, 50, 10);
        act(x, 4, 2, (-20 ^ 6) * 2, 12, 51, 20, 11, 50, 10);
        act(x, 5, 0, 35, 30, 10);
        act(x, 5, 1, 31, 11, 30, 10);
        act(x, 5, 2, 32, 60, 12, 11, 30, 10);
        act(x, 6, 0, 16 ^ 3, 71, 10);
        act(x, 6, 1, (16 ^ 3) - 3 + 8, 70, 11, 71, 10, 10);
        act(x, 6, 2, 48 + (7 ^ 3) - 3 + 8, 40, 12, 70, 11, 71, 10, 10, 70, 11, 71, 10, 10);
        promise = 29;
        due("act wraps", x.act(1, 0, Integer.MAX_VALUE), Integer.MIN_VALUE);
        due("act wraps", x.act(2, 0, Integer.MAX_VALUE), Integer.MAX_VALUE * 3 + 2);
        due("no such act", x.act(6, 3, 1), 0);
        promise = 30;
        due("no TRACE then", x.trace(0), -1);
        due("no TRACE then", x.count(4), 0);
        x.act(6, 2, 1);
        due("count(4)", x.count(4), 12);
        due("no such DOING", x.act(7, 2, 1), 0);
        due("no TRACE then", x.count(4), 0);
        due("no such DOING", x.act(-1, 0, 1), 0);
        due("no such act", x.act(0, -1, 1), 0);
        due("trace(-1)", x.trace(-1), -1);
        due("trace(19)", x.trace(19), -1);
        due("trace(20)", x.trace(20), -1);
    }

    private static void act(NextOneKnows x, int doing, int act, int want, int... bodies) {
        String call = "act(" + doing + ", " + act + ", 10)";
        promise = 29;
        due(call, x.act(doing, act, 10), want);
        promise = 30;
        for (int k = 0; k < bodies.length; k++) {
            due(call + ", trace(" + k + ")", x.trace(k), bodies[k]);
        }
        due(call + ", trace behind its end", x.trace(bodies.length), -1);
        due(call + ", count(4)", x.count(4), bodies.length);
    }

    private static void taken() {
        promise = 31;
        NextOneKnows x = new NextOneKnows();
        String[] taken = {"0", "01", "02", "03", "014", "025", "036"};
        for (int kind = 0; kind < 7; kind++) {
            x.doing(kind, 0, 1, 0, 0, 0);
        }
        for (int kind = 0; kind < 7; kind++) {
            for (int k = 0; k < 7; k++) {
                due("taken(" + kind + ", " + k + ")", x.taken(kind, k), taken[kind].indexOf('0' + k) >= 0 ? kind : -12);
            }
        }
        due("taken(0, 7)", x.taken(0, 7), -2);
        due("taken(9, -1)", x.taken(9, -1), -2);
        due("taken(7, 0)", x.taken(7, 0), -11);
        due("taken(-1, 6)", x.taken(-1, 6), -11);
    }

    private static void counts() {
        promise = 32;
        NextOneKnows x = with("call 1");
        for (int d = 0; d < 5; d++) {
            x.doing(0, 0, 1, 0, 0, 0);
        }
        x.learn(4, true);
        x.learn(2, true);
        x.learn(0, true);
        x.list(0, 1);
        x.list(0, 1);
        feedAll(x, "abcd");
        x.act(1, 2, 0);
        due("count(0)", x.count(0), 5);
        due("count(1)", x.count(1), 1);
        due("count(2)", x.count(2), 2);
        due("count(3)", x.count(3), 4);
        due("count(4)", x.count(4), 3);
        due("count(5)", x.count(5), 3);
        due("count(6)", x.count(6), -2);
        due("count(-1)", x.count(-1), -2);
    }

    private static void tapes() {
        promise = 33;
        NextOneKnows x = new NextOneKnows();
        due("tape(-1, 9, 99)", x.tape(-1, 9, 99), -1);
        due("tape(6, 0, 1)", x.tape(6, 0, 1), -1);
        due("tape(0, 5, -1)", x.tape(0, 5, -1), -2);
        due("tape(0, -2, 1)", x.tape(0, -2, 1), -2);
        due("tape(0, 0, 61)", x.tape(0, 0, 61), -2);
        due("tape(0, 0, -1)", x.tape(0, 0, -1), -14);
        due("tape(0, 0, least)", x.tape(0, 0, Integer.MIN_VALUE), -14);
        due("nothing there", x.item(0, 0, 1), -11);
        due("tape(0, -1, -9)", x.tape(0, -1, -9), 1);
        due("tape(0, -1, 99)", x.tape(0, -1, 99), 1);
        due("tape(0, 0, 60)", x.tape(0, 0, 60), 1);
        due("tape(0, 0, 0)", x.tape(0, 0, 0), 1);
        due("no place", x.item(0, 0, 1), -13);
        x.tape(0, 3, 60);
        promise = 34;
        due("item(0, 59, 5)", x.item(0, 59, 5), 1);
        due("item(0, 60, 5)", x.item(0, 60, 5), -13);
        due("item(0, -1, 5)", x.item(0, -1, 5), -13);
        due("item(6, 0, 5)", x.item(6, 0, 5), -1);
        due("item(-1, 0, 5)", x.item(-1, 0, 5), -1);
        due("item(1, -1, 5)", x.item(1, -1, 5), -11);
        promise = 35;
        due("read(0, 59)", x.read(0, 59), 5);
        due("read(0, 60)", x.read(0, 60), NextOneKnows.NO);
        due("read(0, -1)", x.read(0, -1), NextOneKnows.NO);
        due("read(1, 0)", x.read(1, 0), NextOneKnows.NO);
        due("read(6, 0)", x.read(6, 0), NextOneKnows.NO);
        due("read(-1, 0)", x.read(-1, 0), NextOneKnows.NO);
        promise = 33;
        x.tape(0, 3, 60);
        due("all 0 anew", x.read(0, 59), 0);
        x.tape(0, -1, 0);
        due("nothing there any more", x.read(0, 59), NextOneKnows.NO);
        promise = 33;
        due("tape(5, 4, 1)", x.tape(5, 4, 1), 1);
        due("item(5, 0, 2)", x.item(5, 0, 2), 1);
        due("read(5, 0)", x.read(5, 0), 1);
        due("judge(5, 0)", x.judge(5, 0), -5);
        due("shift(5, 0, 5, 0, 1)", x.shift(5, 0, 5, 0, 1), 1);
        promise = 34;
        long[] told = {0x123456789abcdef0L, -1, 0x80, 0x8000, 0x80000000L, 1L << 32, 0};
        long[][] kept = {{-16, -1, -128, 0, 0, 0, 0}, {-8464, -1, 128, -32768, 0, 0, 0},
            {0x9abcdef0, -1, 128, 32768, Integer.MIN_VALUE, 0, 0}, told, {1, 1, 1, 1, 1, 1, 0}};
        for (int sort = 0; sort < 5; sort++) {
            x.tape(sort, sort, 7);
            for (int k = 0; k < 7; k++) {
                due("item of sort " + sort, x.item(sort, k, told[k]), 1);
                due("item of sort " + sort + ": " + told[k], x.read(sort, k), kept[sort][k]);
            }
        }
    }

    private static void shifts() {
        promise = 36;
        NextOneKnows x = new NextOneKnows();
        x.tape(0, 2, 6);
        x.tape(1, 2, 4);
        x.tape(2, 3, 6);
        due("shift(-1, ..)", x.shift(-1, 0, 3, 0, 1), -1);
        due("shift(.., 6, ..)", x.shift(3, 0, 6, 0, 1), -1);
        due("shift(6, ..)", x.shift(6, 0, 0, 0, 1), -1);
        due("shift(.., -1, ..)", x.shift(0, 0, -1, 0, 1), -1);
        due("shift(7, ..)", x.shift(7, 0, 0, 0, 1), -1);
        due("shift from nothing", x.shift(3, 0, 0, 0, 1), -11);
        due("shift to nothing", x.shift(0, 0, 3, 0, -1), -11);
        due("shift, unlike", x.shift(0, -1, 2, 0, 1), -12);
        filled(x);
        due("shift, n -1", x.shift(0, 0, 1, 0, -1), -13);
        due("shift, n least", x.shift(0, 0, 1, 0, Integer.MIN_VALUE), -13);
        due("shift, i -1", x.shift(0, -1, 1, 0, 1), -13);
        due("shift, j -1", x.shift(0, 0, 1, -1, 0), -13);
        due("shift, beyond the first", x.shift(0, 5, 1, 0, 2), -13);
        due("shift, beyond the other", x.shift(0, 0, 1, 3, 2), -13);
        due("shift, all most", x.shift(0, Integer.MAX_VALUE, 1, Integer.MAX_VALUE, Integer.MAX_VALUE), -13);
        due("shift, i most", x.shift(0, Integer.MAX_VALUE, 1, 0, 1), -13);
        due("shift, none, behind the end", x.shift(0, 7, 1, 0, 0), -13);
        due("shift, none, at the end", x.shift(0, 6, 1, 4, 0), 0);
        row(x, 1, 0, 0, 0, 0);
        due("shift", x.shift(0, 1, 1, 2, 2), 2);
        row(x, 1, 0, 0, 2, 3);
        row(x, 0, 1, 2, 3, 4, 5, 6);
        due("shift up in one", x.shift(0, 0, 0, 2, 4), 4);
        row(x, 0, 1, 2, 1, 2, 3, 4);
        filled(x);
        due("shift down in one", x.shift(0, 2, 0, 0, 4), 4);
        row(x, 0, 3, 4, 5, 6, 5, 6);
        due("shift all", x.shift(0, 0, 0, 0, 6), 6);
        row(x, 0, 3, 4, 5, 6, 5, 6);
    }

    private static void filled(NextOneKnows x) {
        for (int k = 0; k < 6; k++) {
            x.item(0, k, k + 1);
        }
    }

    private static void row(NextOneKnows x, int tape, long... want) {
        for (int k = 0; k < want.length; k++) {
            due("read(" + tape + ", " + k + ")", x.read(tape, k), want[k]);
        }
    }
}
