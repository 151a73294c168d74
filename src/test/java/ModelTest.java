import java.util.Random;

/** Long runs of calls, drawn by fixed seeds, on the class and on PlainModel: both must answer alike. */
public final class ModelTest {
    private static final String SIGNS = " ;!()&|<=>ikrvcywsayfdelx0123456789\n";
    private static final int OBJECTS = 700, CALLS = 512;

    private final Random random;
    private final NextOneKnows x = new NextOneKnows();
    private final PlainModel m = new PlainModel();
    private final StringBuilder told = new StringBuilder();
    private int calls;
    private boolean wrong;
    /** Some runs have few DOINGS, so that FITS and ALL have something to answer. */
    private final int doingsMost;
    private final int roundMost;

    private ModelTest(long seed) {
        random = new Random(seed);
        doingsMost = new int[] {1, 3, 5, 8, 12}[random.nextInt(5)];
        roundMost = new int[] {2, 6, 20, 63}[random.nextInt(4)];
    }

    private void due(String call, long got, long want) {
        calls++;
        told.append(call).append(" -> ").append(got).append('\n');
        if (got != want && !wrong) {
            wrong = true;
            System.out.println("after\n" + told + "due was " + want);
        }
    }

    /** Mostly a number from a to b, now and then one beside it. */
    private int about(int a, int b) {
        int k = random.nextInt(24);
        return k == 0 ? a - 1 : k == 1 ? b + 1 : k == 2 ? odd() : a + random.nextInt(b - a + 1);
    }

    private int odd() {
        int[] odd = {Integer.MIN_VALUE, Integer.MAX_VALUE, -2, 63, 100, 1 << 30, -7, 1000};
        return odd[random.nextInt(odd.length)];
    }

    private int anyDoing() {
        return about(0, Math.max(0, m.now.things.size() - 1));
    }

    private String clause() {
        int n = random.nextInt(random.nextInt(3) == 0 ? 100 : 10);
        String number = random.nextInt(6) == 0 && n < 10 ? "0" + n : "" + n;
        switch (random.nextInt(8)) {
            case 0: return "call " + number;
            case 1: return "fade " + random.nextInt(3);
            case 2: case 3: case 4: return "say " + number + " " + either(0);
            default: return "cost " + number + " " + either(0);
        }
    }

    private String either(int within) {
        return both(within) + (random.nextInt(4) == 0 ? "|" + both(within) : "");
    }

    private String both(int within) {
        return part(within) + (random.nextInt(4) == 0 ? "&" + part(within) : "");
    }

    private String part(int within) {
        int k = random.nextInt(within > 4 ? 1000 : 5);
        if (k == 0) {
            return "!" + part(within + 1);
        }
        if (k == 1) {
            return "(" + either(within + 1) + ")";
        }
        char letter = "ikrvcyw".charAt(random.nextInt(7));
        return "" + letter + "<=>".charAt(random.nextInt(3)) + random.nextInt(random.nextBoolean() ? 10 : 62);
    }

    private String somePost() {
        StringBuilder post = new StringBuilder(clause());
        int more = random.nextInt(random.nextInt(4) == 0 ? 12 : 4);
        for (int k = 0; k < more; k++) {
            String next = random.nextInt(6) == 0 || post.length() > 80 ? "call 1" : clause();
            post.append(';').append(next);
        }
        if (random.nextInt(3) == 0) {
            int at = random.nextInt(post.length());
            switch (random.nextInt(3)) {
                case 0: post.setLength(at); break;
                case 1: post.deleteCharAt(at); break;
                default: post.insert(at, SIGNS.charAt(random.nextInt(SIGNS.length())));
            }
        }
        return post.toString();
    }

    private void tellPost() {
        String post = somePost();
        for (int k = 0; k < post.length() && calls < CALLS; k++) {
            int sign = post.charAt(k);
            due("feed(" + sign + ")", x.feed(sign), m.feed(sign));
        }
        due("post() of " + post, x.post(), m.post());
    }

    private void tellDoing() {
        int kind = about(0, 6), v = about(0, 9), round = about(1, roundMost);
        int place = about(0, Math.min(Math.max(round, 1), 100) - 1), cost = about(0, 99), need = about(0, 99);
        need = random.nextBoolean() ? need / 5 : need;
        due("doing(" + kind + "," + v + "," + round + "," + place + "," + cost + "," + need + ")",
                x.doing(kind, v, round, place, cost, need), m.doing(kind, v, round, place, cost, need));
    }

    private void state() {
        int d = anyDoing();
        boolean is = random.nextBoolean();
        switch (random.nextInt(8)) {
            case 0: due("needless(" + d + "," + is + ")", x.needless(d, is), m.needless(d, is)); break;
            case 1: due("learn(" + d + "," + is + ")", x.learn(d, is), m.learn(d, is)); break;
            case 2: {
                int n = about(0, 10);
                due("odds(" + d + "," + n + ")", x.odds(d, n), m.odds(d, n));
                break;
            }
            case 3: case 4: {
                int way = about(0, 3), n = about(0, 9);
                due("hours(" + way + "," + n + ")", x.hours(way, n), m.hours(way, n));
                break;
            }
            case 5: {
                if (random.nextInt(3) == 0) {
                    due("hand()", x.hand(), m.hand());
                }
                int n = random.nextInt(3) == 0 ? about(1, 60) : about(1, 4);
                due("go(" + n + ")", x.go(n), m.go(n));
                break;
            }
            case 6: {
                int weeks = random.nextInt(5) == 0 ? -1 : about(0, random.nextBoolean() ? 20 : 99);
                if (random.nextInt(3) > 0 && m.thing(d) != null) {
                    weeks = Math.min(99, m.when(d) - m.now.week);
                }
                due("list(" + weeks + "," + d + ")", x.list(weeks, d), m.list(weeks, d));
                break;
            }
            default:
                if (random.nextInt(4) == 0) {
                    due("image()", x.image(), m.image());
                } else if (random.nextInt(3) == 0) {
                    due("undo()", x.undo(), m.undo());
                }
        }
    }

    private void asked() {
        int d = anyDoing();
        switch (random.nextInt(9)) {
            case 0: case 1: {
                int what = about(0, 11);
                due("of(" + d + "," + what + ")", x.of(d, what), m.of(d, what));
                break;
            }
            case 2: {
                int what = about(0, 13);
                due("told(" + what + ")", x.told(what), m.told(what));
                break;
            }
            case 3: {
                int way = about(0, 3);
                due("said(" + d + "," + way + ")", x.said(d, way), m.said(d, way));
                break;
            }
            case 4: {
                int n = about(0, random.nextBoolean() ? 8 : 200), what = about(0, 5);
                due("run(" + n + "," + what + ")", x.run(n, what), m.run(n, what));
                break;
            }
            case 5: due("when(" + d + ")", x.when(d), m.when(d)); break;
            case 6: {
                int n = about(1, random.nextBoolean() ? 8 : 200), what = about(0, 1);
                due("busiest(" + n + "," + what + ")", x.busiest(n, what), m.busiest(n, what));
                break;
            }
            case 7: {
                int set = about(0, (1 << m.now.things.size()) - 1);
                set = random.nextBoolean() ? set & random.nextInt(1024) : set;
                due("all(" + set + ")", x.all(set), m.all(set));
                break;
            }
            default: {
                int what = about(0, 5);
                due("count(" + what + ")", x.count(what), m.count(what));
            }
        }
    }

    private void dearlyAsked() {
        int n = about(0, random.nextBoolean() ? 6 : 60);
        switch (random.nextInt(9)) {
            case 0: case 1: {
                int h = about(0, 9), way = about(-1, 3);
                due("split(" + h + "," + n + "," + way + ")", x.split(h, n, way), m.split(h, n, way));
                break;
            }
            case 2: {
                int way = about(0, 3);
                due("more(" + way + "," + n + ")", x.more(way, n), m.more(way, n));
                break;
            }
            case 3: due("ask(" + n + ")", x.ask(n), m.bestChange(n, true)); break;
            case 4: due("drop(" + n + ")", x.drop(n), m.bestChange(n, false)); break;
            case 5: {
                int part = about(0, 1);
                due("chance(" + n + "," + part + ")", x.chance(n, part), m.chance(n, part));
                break;
            }
            case 6: due("fits()", x.fits(), m.fits()); break;
            default: due("looked()", x.looked(), m.looked());
        }
    }

    private void host() {
        int t = about(0, 5), i = random.nextInt(4) == 0 ? about(0, 60) : about(0, 4), d = anyDoing();
        switch (random.nextInt(9)) {
            case 0: {
                int sort = random.nextBoolean() ? 4 : about(-1, 4), n = random.nextBoolean() ? about(0, 60) : about(0, 12);
                due("tape(" + t + "," + sort + "," + n + ")", x.tape(t, sort, n), m.tape(t, sort, n));
                break;
            }
            case 1: case 2: {
                long v = random.nextBoolean() ? random.nextLong() : random.nextInt(3) << 8 | random.nextInt(2);
                due("item(" + t + "," + i + "," + v + ")", x.item(t, i, v), m.item(t, i, v));
                break;
            }
            case 3: due("read(" + t + "," + i + ")", x.read(t, i), m.read(t, i)); break;
            case 4: {
                int u = random.nextBoolean() ? t : about(0, 5), j = about(0, 4), n = about(0, 5);
                due("shift(" + t + "," + i + "," + u + "," + j + "," + n + ")", x.shift(t, i, u, j, n), m.shift(t, i, u, j, n));
                break;
            }
            case 5: due("judge(" + t + "," + i + ")", x.judge(t, i), m.judge(t, i)); break;
            case 6: {
                int act = about(0, 2), a = random.nextBoolean() ? random.nextInt() : random.nextInt(20);
                due("act(" + d + "," + act + "," + a + ")", x.act(d, act, a), m.act(d, act, a));
                for (int k = -1; k < m.ran.size() + 1 && calls < CALLS; k++) {
                    due("trace(" + k + ")", x.trace(k), m.trace(k));
                }
                break;
            }
            case 7: {
                int k = about(0, 6);
                due("taken(" + d + "," + k + ")", x.taken(d, k), m.taken(d, k));
                break;
            }
            default: {
                int k = random.nextInt(25) - 1;
                due("trace(" + k + ")", x.trace(k), m.trace(k));
            }
        }
    }

    private boolean goesThrough() {
        while (calls < CALLS && !wrong) {
            int k = random.nextInt(100);
            if (k < 4) {
                tellPost();
            } else if (k < 12) {
                if (m.now.things.size() < doingsMost) {
                    tellDoing();
                }
            } else if (k < 40) {
                state();
            } else if (k < 65) {
                asked();
            } else if (k < 73) {
                dearlyAsked();
            } else {
                host();
            }
        }
        return !wrong;
    }

    public static void main(String[] args) {
        int from = args.length > 0 ? Integer.parseInt(args[0]) : 0;
        int many = args.length > 1 ? Integer.parseInt(args[1]) : OBJECTS;
        for (int seed = from; seed < from + many; seed++) {
            if (!new ModelTest(seed).goesThrough()) {
                System.out.println("seed " + seed + ": not alike");
                System.exit(1);
            }
        }
        System.out.println(many + " runs of " + CALLS + " calls: alike");
    }
}
