import java.util.Arrays;

/**
 * What the next one must know: doings that come round by weeks, what is said of each by which way,
 * what a stop costs, and what is best to be said, asked and dropped before one hands over.
 */
public final class NextOneKnows {
    public static final int NONE = -1, BAD = -2, STATE = -3, FULL = -4;
    public static final long NO = Long.MIN_VALUE;

    // The host's refusals, and the answers that stand where NONE and BAD could be taken for a number.
    private static final int NOTHING = -11, CAST = -12, PLACE = -13, SIZE = -14;
    private static final int NO_SUCH = -10001, NOT_AS_TOLD = -10002;
    private static final int NEVER = -5, TOO_MANY = -9, ROW_ENDS = 100, FAULT_FROM = -10;

    private static final int DOINGS = 10, WAYS = 4, POSTS = 6, SIGNS = 100, ROWS = 12, TAPES = 6;
    private static final int KINDS = 7, ROUND_MOST = 60, TWO_DIGITS_MOST = 99, DIGIT_MOST = 9, ODDS_MOST = 10;
    private static final int WEEK_MOST = 9999, GO_MOST = 60, ASKED_MOST = 60, RUN_MOST = 200;
    private static final int LIST_WEEKS = 100, ALL_MOST = 3600, FITS_DOINGS = 8, ITEMS = 60;
    private static final int PAGES = 0, SIDE_BY_SIDE = 1, ASKED = 2, CASES = 3;
    private static final int NO_ROW = -1, BYTES = 0, SHORTS = 1, INTS = 2, LONGS = 3, BOOLEANS = 4;

    private final State now = new State();
    private final State imaged = new State();
    private boolean hasImage;
    private final Ahead ahead = new Ahead(now);
    private final Post[] posts = new Post[POSTS];
    private int postCount;
    private final byte[] text = new byte[SIGNS];
    private int signs;
    private final Trace trace = new Trace();
    private final int[] sorts = new int[TAPES];
    private final int[] sizes = new int[TAPES];
    private final long[][] items = new long[TAPES][ITEMS];

    public NextOneKnows() {
        Arrays.fill(sorts, NO_ROW);
        for (int k = 0; k < posts.length; k++) {
            posts[k] = new Post(text);
        }
    }

    // ---- doings, posts

    public int doing(int kind, int v, int round, int place, int cost, int need) {
        if (isNot(kind, 0, KINDS - 1)) {
            return NONE;
        }
        if (isNot(v, 0, DIGIT_MOST) || isNot(round, 1, ROUND_MOST) || isNot(place, 0, round - 1)
                || isNot(cost, 0, TWO_DIGITS_MOST) || isNot(need, 0, TWO_DIGITS_MOST)) {
            return BAD;
        }
        if (now.count >= DOINGS) {
            return FULL;
        }
        return now.add(made(kind, now.count, v, round, place, cost, need));
    }

    public int of(int doing, int what) {
        Doing of = now.find(doing);
        if (of == null) {
            return NO_SUCH;
        }
        switch (what) {
            case 0: return of.kind();
            case 1: return of.v;
            case 2: return of.round;
            case 3: return of.place;
            case 4: return of.cost;
            case 5: return of.need;
            case 6: return bit(now.needless, doing);
            case 7: return bit(now.known, doing);
            case 8: return ahead.saidOf(of);
            case 9: return ahead.saidOf(of) >= of.need ? 1 : 0;
            case 10: return now.dearIn(of, now.week);
            case 11: return now.odds[of.i];
            default: return NO_SUCH;
        }
    }

    public int needless(int doing, boolean is) {
        if (now.find(doing) == null) {
            return NONE;
        }
        int was = bit(now.needless, doing);
        now.needless = withBit(now.needless, doing, is);
        return was;
    }

    public int learn(int doing, boolean is) {
        if (now.find(doing) == null) {
            return NONE;
        }
        int was = bit(now.known, doing);
        now.known = withBit(now.known, doing, is);
        return was;
    }

    public int odds(int doing, int n) {
        Doing of = now.find(doing);
        if (of == null) {
            return NONE;
        }
        if (isNot(n, 0, ODDS_MOST)) {
            return BAD;
        }
        int were = now.odds[of.i];
        now.odds[of.i] = n;
        return were;
    }

    public int hours(int way, int n) {
        if (isNot(way, 0, WAYS - 1)) {
            return NONE;
        }
        if (isNot(n, 0, DIGIT_MOST)) {
            return BAD;
        }
        int were = now.hours[way];
        now.hours[way] = n;
        return were;
    }

    public int feed(int sign) {
        if (isNot(sign, 0, 127)) {
            return BAD;
        }
        if (signs >= text.length) {
            return FULL;
        }
        text[signs] = (byte) sign;
        signs++;
        return signs;
    }

    public int post() {
        if (postCount >= posts.length) {
            return FULL;
        }
        Post next = posts[postCount];
        int fault = next.readFrom(signs);
        signs = 0;
        if (fault >= 0) {
            return FAULT_FROM - fault;
        }
        now.post = next;
        postCount++;
        return postCount - 1;
    }

    public int told(int what) {
        switch (what) {
            case 0: return now.callsAtFirst();
            case 1: return now.callsFading();
            case 2: return now.week;
            case 3: return now.costs;
            case 4: return now.stops;
            case 5: return now.calls;
            default: return isNot(what, 10, 10 + WAYS - 1) ? NONE : now.hours[what - 10];
        }
    }

    public int said(int doing, int way) {
        Doing of = now.find(doing);
        if (of == null || isNot(way, 0, WAYS - 1)) {
            return NONE;
        }
        return now.saidBy(of, way);
    }

    // ---- handing over, weeks

    public int hand() {
        ahead.hear();
        int fresh = ahead.goingOver(now.hours) & ~now.known;
        now.known |= fresh;
        return Integer.bitCount(fresh);
    }

    public int go(int n) {
        if (isNot(n, 1, GO_MOST)) {
            return BAD;
        }
        if (now.week + n > WEEK_MOST) {
            return STATE;
        }
        ahead.look(n);
        now.costs += ahead.pass(now.known, now.needless);
        now.stops += ahead.stops;
        now.calls += ahead.calls;
        now.known = ahead.known;
        now.week += n;
        return now.week;
    }

    public int run(int n, int what) {
        if (isNot(what, 0, 5)) {
            return NO_SUCH;
        }
        if (isNot(n, 0, RUN_MOST)) {
            return NOT_AS_TOLD;
        }
        ahead.look(n);
        int costs = ahead.pass(now.known, now.needless);
        switch (what) {
            case 0: return costs;
            case 1: return ahead.stops;
            case 2: return ahead.calls;
            case 3: return Integer.bitCount(ahead.known);
            case 4: return ahead.firstWeek;
            default: return ahead.firstDoing;
        }
    }

    // ---- what is best

    public int split(int h, int n, int way) {
        if (isNot(way, -1, WAYS - 1)) {
            return NO_SUCH;
        }
        if (isNot(h, 0, DIGIT_MOST) || isNot(n, 0, ASKED_MOST)) {
            return NOT_AS_TOLD;
        }
        ahead.look(n);
        ahead.hear();
        int least = ahead.bestSplit(h);
        return way < 0 ? least : ahead.best[way];
    }

    public int more(int way, int n) {
        if (isNot(way, 0, WAYS - 1)) {
            return NO_SUCH;
        }
        if (isNot(n, 0, ASKED_MOST)) {
            return NOT_AS_TOLD;
        }
        if (now.hours[way] >= DIGIT_MOST) {
            return 0;
        }
        ahead.look(n);
        ahead.hear();
        return ahead.costHanded(now.hours) - ahead.costHanded(ahead.hourMore(way));
    }

    public int ask(int n) {
        if (isNot(n, 0, ASKED_MOST)) {
            return BAD;
        }
        ahead.look(n);
        return ahead.bestOf(~now.known, true);
    }

    public int drop(int n) {
        if (isNot(n, 0, ASKED_MOST)) {
            return BAD;
        }
        ahead.look(n);
        return ahead.bestOf(~now.needless, false);
    }

    // ---- when

    public int when(int doing) {
        Doing of = now.find(doing);
        return of == null ? NONE : now.week + of.weeksUntil(now.week);
    }

    public int busiest(int n, int what) {
        if (isNot(what, 0, 1)) {
            return NONE;
        }
        if (isNot(n, 1, RUN_MOST)) {
            return BAD;
        }
        int best = 0, most = -1;
        for (int on = 0; on < n; on++) {
            int many = Integer.bitCount(now.coming(now.week + on));
            if (many > most) {
                most = many;
                best = on;
            }
        }
        return what == 0 ? now.week + best : most;
    }

    public int all(int set) {
        if (set == 0 || (set & ~now.everyDoing()) != 0) {
            return BAD;
        }
        int on = 0;
        while (on <= ALL_MOST) {
            int wait = now.longestWait(set, now.week + on);
            if (wait <= 0) {
                return on;
            }
            on += wait;
        }
        return NEVER;
    }

    // ---- lists, odds

    public int list(int weeks, int doing) {
        if (weeks == -1) {
            now.rows = 0;
            return 0;
        }
        if (isNot(weeks, 0, LIST_WEEKS - 1)) {
            return BAD;
        }
        if (now.find(doing) == null) {
            return NONE;
        }
        return now.rows >= ROWS ? FULL : now.addRow(now.week + weeks, doing);
    }

    public int looked() {
        ahead.look(now.weeksToRows());
        ahead.pass(now.known, now.needless);
        return ahead.firstRowNotSo();
    }

    public int fits() {
        if (now.count > FITS_DOINGS) {
            return TOO_MANY;
        }
        ahead.look(now.weeksToRows());
        int fitting = 0;
        for (int set = 0; set <= now.everyDoing(); set++) {
            ahead.pass(set, now.needless);
            if (ahead.firstRowNotSo() == NEVER) {
                fitting++;
            }
        }
        return fitting;
    }

    public long chance(int n, int part) {
        if (isNot(n, 0, ASKED_MOST) || isNot(part, 0, 1)) {
            return NO;
        }
        // Who stops nothing learns nothing: so each DOING that comes round must be KNOWN from the first.
        long above = 1, below = 1;
        for (int d = 0; d < now.count; d++) {
            Doing of = now.find(d);
            if (of != null && bit(now.needless, d) == 0 && of.weeksUntil(now.week) < n) {
                above *= now.odds[d];
                below *= ODDS_MOST;
            }
        }
        long shared = commonDivisor(above, below);
        return (part == 0 ? above : below) / shared;
    }

    // ---- judging, the image, acts, tapes

    public int judge(int tape, int i) {
        if (isNot(tape, 0, TAPES - 1)) {
            return NONE;
        }
        if (sorts[tape] != NO_ROW && sorts[tape] != BOOLEANS) {
            return CAST;
        }
        for (int d = 0; d < now.count; d++) {
            if (i < 0 || i >= sizes[tape] - d) {
                return ROW_ENDS + d;
            }
            if (items[tape][i + d] != bit(now.known, d)) {
                return d;
            }
        }
        return NEVER;
    }

    public int image() {
        imaged.takeFrom(now);
        hasImage = true;
        return now.count;
    }

    public int undo() {
        if (!hasImage) {
            return STATE;
        }
        now.takeFrom(imaged);
        return now.count;
    }

    public int act(int doing, int act, int x) {
        trace.ran = 0;
        Doing of = now.find(doing);
        if (of == null) {
            return 0;
        }
        switch (act) {
            case 0: return of.says(x, trace);
            case 1: return of.holds(x, trace);
            case 2: return of.tells(x, trace);
            default: return 0;
        }
    }

    public int trace(int i) {
        if (i < 0 || i >= trace.ran || i >= trace.bodies.length) {
            return NONE;
        }
        return trace.bodies[i];
    }

    public int taken(int doing, int k) {
        if (isNot(k, 0, KINDS - 1)) {
            return BAD;
        }
        Doing of = now.find(doing);
        if (of == null) {
            return NOTHING;
        }
        return isOfKind(of, k) ? of.kind() : CAST;
    }

    public int count(int what) {
        switch (what) {
            case 0: return now.count;
            case 1: return postCount;
            case 2: return now.rows;
            case 3: return signs;
            case 4: return trace.ran;
            case 5: return Integer.bitCount(now.known);
            default: return BAD;
        }
    }

    public int tape(int tape, int sort, int n) {
        if (isNot(tape, 0, TAPES - 1)) {
            return NONE;
        }
        if (isNot(sort, NO_ROW, BOOLEANS) || (sort != NO_ROW && n > ITEMS)) {
            return BAD;
        }
        if (sort != NO_ROW && n < 0) {
            return SIZE;
        }
        sorts[tape] = sort;
        sizes[tape] = sort == NO_ROW ? 0 : n;
        Arrays.fill(items[tape], 0L);
        return 1;
    }

    public int item(int tape, int i, long v) {
        if (isNot(tape, 0, TAPES - 1)) {
            return NONE;
        }
        if (sorts[tape] == NO_ROW) {
            return NOTHING;
        }
        if (isNot(i, 0, sizes[tape] - 1)) {
            return PLACE;
        }
        items[tape][i] = cut(v, sorts[tape]);
        return 1;
    }

    public long read(int tape, int i) {
        if (isNot(tape, 0, TAPES - 1) || isNot(i, 0, sizes[tape] - 1)) {
            return NO;
        }
        return items[tape][i];
    }

    public int shift(int tape, int i, int other, int j, int n) {
        if (isNot(tape, 0, TAPES - 1) || isNot(other, 0, TAPES - 1)) {
            return NONE;
        }
        if (sorts[tape] == NO_ROW || sorts[other] == NO_ROW) {
            return NOTHING;
        }
        if (sorts[tape] != sorts[other]) {
            return CAST;
        }
        if (n < 0 || isNot(i, 0, sizes[tape] - n) || isNot(j, 0, sizes[other] - n)) {
            return PLACE;
        }
        System.arraycopy(items[tape], i, items[other], j, n);
        return n;
    }

    // ---- what the calls share

    private static boolean isNot(int n, int least, int most) {
        return n < least || n > most;
    }

    private static int bit(int bits, int place) {
        return bits >> place & 1;
    }

    private static int withBit(int bits, int place, boolean is) {
        return is ? bits | 1 << place : bits & ~(1 << place);
    }

    /** The greatest number that divides both; below is above 0, so it is, too. */
    private static long commonDivisor(long above, long below) {
        long greater = below, lesser = above;
        // Numbers up to ten to the tenth need some 50 steps.
        for (int step = 0; step < 100 && lesser > 0; step++) {
            long rest = greater % lesser;
            greater = lesser;
            lesser = rest;
        }
        return Math.max(1L, greater);
    }

    /** The lowest bits of v, as many as an item of that sort has. */
    private static long cut(long v, int sort) {
        switch (sort) {
            case BYTES: return (byte) v;
            case SHORTS: return (short) v;
            case INTS: return (int) v;
            case LONGS: return v;
            default: return v != 0 ? 1 : 0;
        }
    }

    private static Doing made(int kind, int i, int v, int round, int place, int cost, int need) {
        switch (kind) {
            case 1: return new Written(i, v, round, place, cost, need);
            case 2: return new Plain(i, v, round, place, cost, need);
            case 3: return new Rare(i, v, round, place, cost, need);
            case 4: return new Why(i, v, round, place, cost, need);
            case 5: return new Tied(i, v, round, place, cost, need);
            case 6: return new Wrong(i, v, round, place, cost, need);
            default: return new Doing(i, v, round, place, cost, need);
        }
    }

    private static boolean isOfKind(Doing of, int k) {
        switch (k) {
            case 0: return true;
            case 1: return of instanceof Written;
            case 2: return of instanceof Plain;
            case 3: return of instanceof Rare;
            case 4: return of instanceof Why;
            case 5: return of instanceof Tied;
            default: return of instanceof Wrong;
        }
    }

    /** The bodies that ran in the latest act. */
    private static final class Trace {
        final int[] bodies = new int[20];
        int ran;

        void begins(int body) {
            if (ran < bodies.length) {
                bodies[ran] = body;
            }
            ran++;
        }
    }

    /** A DOING with its KNOWING, of KIND KNOWING; the classes under this one are the other KINDS. */
    private static class Doing {
        final int i, v, round, place, cost, need;

        Doing(int i, int v, int round, int place, int cost, int need) {
            this.i = i;
            this.v = v;
            // A ROUND divides: none below 1 is told, and none could harm here.
            this.round = Math.max(1, round);
            this.place = place;
            this.cost = cost;
            this.need = need;
        }

        int kind() {
            return 0;
        }

        /** In how many WEEKS from that one on it comes round first. */
        final int weeksUntil(int week) {
            return Math.floorMod(place - week, round);
        }

        /** SAID over all WAYS: by is what is SAID by each in an HOUR. */
        int saidOver(int[] by, int[] hours) {
            int sum = 0;
            for (int y = 0; y < WAYS; y++) {
                sum += hours[y] * by[y];
            }
            return sum;
        }

        boolean isKnownByCall() {
            return true;
        }

        boolean isKnownByStop() {
            return false;
        }

        int says(int x, Trace trace) {
            trace.begins(10);
            return x + i;
        }

        int holds(int x, Trace trace) {
            trace.begins(11);
            return says(x, trace) - v;
        }

        int tells(int x, Trace trace) {
            trace.begins(12);
            return holds(x, trace) * 2;
        }
    }

    private static class Written extends Doing {
        Written(int i, int v, int round, int place, int cost, int need) {
            super(i, v, round, place, cost, need);
        }

        int kind() {
            return 1;
        }

        int saidOver(int[] by, int[] hours) {
            return super.saidOver(by, hours) + v * hours[PAGES];
        }

        int holds(int x, Trace trace) {
            trace.begins(20);
            return super.holds(x, trace) ^ 6;
        }
    }

    private static class Plain extends Doing {
        Plain(int i, int v, int round, int place, int cost, int need) {
            super(i, v, round, place, cost, need);
        }

        int kind() {
            return 2;
        }

        int saidOver(int[] by, int[] hours) {
            return hours[ASKED] * by[ASKED] + hours[CASES] * by[CASES];
        }

        boolean isKnownByStop() {
            return v > 4;
        }

        int says(int x, Trace trace) {
            trace.begins(30);
            return super.says(x * 3, trace);
        }
    }

    private static class Rare extends Doing {
        Rare(int i, int v, int round, int place, int cost, int need) {
            super(i, v, round, place, cost, need);
        }

        int kind() {
            return 3;
        }

        int saidOver(int[] by, int[] hours) {
            return hours[CASES] == 0 ? 0 : super.saidOver(by, hours);
        }

        boolean isKnownByStop() {
            return v == 0;
        }

        int tells(int x, Trace trace) {
            trace.begins(40);
            return super.tells(x, trace) + holds(1, trace);
        }
    }

    private static final class Why extends Written {
        Why(int i, int v, int round, int place, int cost, int need) {
            super(i, v, round, place, cost, need);
        }

        int kind() {
            return 4;
        }

        int saidOver(int[] by, int[] hours) {
            return super.saidOver(by, hours) + (hours[ASKED] > 0 ? v : 0);
        }

        int says(int x, Trace trace) {
            trace.begins(50);
            return -super.says(x, trace);
        }

        int holds(int x, Trace trace) {
            trace.begins(51);
            return super.holds(x + 1, trace);
        }
    }

    private static final class Tied extends Plain {
        Tied(int i, int v, int round, int place, int cost, int need) {
            super(i, v, round, place, cost, need);
        }

        int kind() {
            return 5;
        }

        int saidOver(int[] by, int[] hours) {
            return super.saidOver(by, hours) + 2 * v * hours[SIDE_BY_SIDE];
        }

        int tells(int x, Trace trace) {
            trace.begins(60);
            return super.tells(x - i, trace);
        }
    }

    private static final class Wrong extends Rare {
        Wrong(int i, int v, int round, int place, int cost, int need) {
            super(i, v, round, place, cost, need);
        }

        int kind() {
            return 6;
        }

        int saidOver(int[] by, int[] hours) {
            return super.saidOver(by, hours) - v;
        }

        boolean isKnownByCall() {
            return false;
        }

        int holds(int x, Trace trace) {
            trace.begins(70);
            return super.holds(x, trace) + super.says(2, trace);
        }

        int says(int x, Trace trace) {
            trace.begins(71);
            return super.says(x, trace) ^ v;
        }
    }

    /** How all is, so far as THE IMAGE keeps it. Sets of DOINGS are bits. */
    private static final class State {
        final Doing[] doings = new Doing[DOINGS];
        final int[] odds = new int[DOINGS];
        int count, known, needless;
        final int[] hours = new int[WAYS];
        int week, costs, stops, calls;
        // The LIST's WEEKS are kept as their numbers: "now" moves on, and they do not.
        final int[] rowWeeks = new int[ROWS];
        final int[] rowDoings = new int[ROWS];
        int rows;
        // The POST that holds; null without one.
        Post post;

        void takeFrom(State other) {
            for (int d = 0; d < DOINGS; d++) {
                doings[d] = other.doings[d];
            }
            System.arraycopy(other.odds, 0, odds, 0, DOINGS);
            System.arraycopy(other.hours, 0, hours, 0, WAYS);
            System.arraycopy(other.rowWeeks, 0, rowWeeks, 0, ROWS);
            System.arraycopy(other.rowDoings, 0, rowDoings, 0, ROWS);
            count = other.count;
            known = other.known;
            needless = other.needless;
            week = other.week;
            costs = other.costs;
            stops = other.stops;
            calls = other.calls;
            rows = other.rows;
            post = other.post;
        }

        /** That DOING, or null if there is none of that number. */
        Doing find(int doing) {
            return doing < 0 || doing >= count || doing >= DOINGS ? null : doings[doing];
        }

        int add(Doing fresh) {
            if (count >= DOINGS) {
                return FULL;
            }
            doings[count] = fresh;
            odds[count] = 5;
            count++;
            return count - 1;
        }

        int addRow(int inWeek, int doing) {
            if (rows >= ROWS) {
                return FULL;
            }
            rowWeeks[rows] = inWeek;
            rowDoings[rows] = doing;
            rows++;
            return rows;
        }

        /** How many WEEKS from now on tell of all rows: RUN of 100 tells no more of them. */
        int weeksToRows() {
            int weeks = 0;
            for (int r = 0; r < rows; r++) {
                weeks = Math.max(weeks, rowWeeks[r] - week + 1);
            }
            return Math.min(weeks, LIST_WEEKS);
        }

        int everyDoing() {
            return (1 << count) - 1;
        }

        int saidBy(Doing of, int way) {
            return post == null ? 0 : post.together(Post.SAY, of, way, 0);
        }

        int dearIn(Doing of, int inWeek) {
            return of.cost + (post == null ? 0 : post.together(Post.COST, of, Post.NO_WAY, inWeek % Post.YEAR));
        }

        int callsAtFirst() {
            return post == null ? Post.CALL_WITHOUT : post.call;
        }

        int callsFading() {
            return post == null ? Post.FADE_WITHOUT : post.fade;
        }

        /** The DOINGS that come round in a WEEK, NEEDLESS ones too. */
        int coming(int inWeek) {
            int bits = 0;
            for (int d = 0; d < count; d++) {
                Doing of = find(d);
                if (of != null && of.weeksUntil(inWeek) == 0) {
                    bits |= 1 << d;
                }
            }
            return bits;
        }

        /** How long one of a set is waited for, at most, from a WEEK on: ahead of that not all can come. */
        int longestWait(int set, int fromWeek) {
            int longest = 0;
            for (int d = 0; d < count; d++) {
                Doing of = find(d);
                if (of != null && bit(set, d) != 0) {
                    longest = Math.max(longest, of.weeksUntil(fromWeek));
                }
            }
            return longest;
        }
    }

    /** Looks at WEEKS to come and changes nothing of how all is. Its rows serve every call anew. */
    private static final class Ahead {
        private final State now;
        // What was looked at: how many WEEKS, who comes round in each, DEAR by DOING and WEEK modulo 60.
        private int span;
        private final int[] coming = new int[RUN_MOST];
        private final int[] dear = new int[DOINGS * Post.YEAR];
        // What was heard: SAID of each DOING by each WAY in an HOUR.
        private final int[][] said = new int[DOINGS][WAYS];
        // How the latest pass() went; stopping: who stopped in each of its WEEKS.
        private final int[] stopping = new int[RUN_MOST];
        private int needless, costs, called;
        int known, stops, calls, firstWeek, firstDoing;
        private final int[] shares = new int[WAYS];
        final int[] best = new int[WAYS];

        Ahead(State now) {
            this.now = now;
        }

        /** Makes ready for pass(): n WEEKS from how all is. */
        void look(int n) {
            span = Math.max(0, Math.min(n, RUN_MOST));
            Arrays.fill(dear, -1);
            for (int on = 0; on < span; on++) {
                coming[on] = now.coming(now.week + on);
                lookDear(coming[on], now.week + on);
            }
        }

        private void lookDear(int who, int week) {
            for (int d = 0; d < now.count; d++) {
                int cell = dearCell(d, week);
                Doing of = now.find(d);
                if (of != null && bit(who, d) != 0 && dear[cell] < 0) {
                    dear[cell] = now.dearIn(of, week);
                }
            }
        }

        private static int dearCell(int d, int week) {
            return d * Post.YEAR + Math.floorMod(week, Post.YEAR);
        }

        /** Makes ready for goingOver() and what asks it. */
        void hear() {
            for (int d = 0; d < now.count; d++) {
                Doing of = now.find(d);
                if (of != null) {
                    hearOf(of);
                }
            }
        }

        private void hearOf(Doing of) {
            for (int y = 0; y < WAYS; y++) {
                said[of.i][y] = now.saidBy(of, y);
            }
        }

        int saidOf(Doing of) {
            hearOf(of);
            return of.saidOver(said[of.i], now.hours);
        }

        /** The DOINGS that GO OVER by such HOURS. */
        int goingOver(int[] hours) {
            int bits = 0;
            for (int d = 0; d < now.count; d++) {
                Doing of = now.find(d);
                if (of != null && of.saidOver(said[d], hours) >= of.need) {
                    bits |= 1 << d;
                }
            }
            return bits;
        }

        /** The WEEKS looked at go, as it were, from such a known and needless on: their COSTS. */
        int pass(int knownAtFirst, int needlessThen) {
            known = knownAtFirst;
            needless = needlessThen;
            costs = 0;
            stops = 0;
            calls = 0;
            firstWeek = NEVER;
            firstDoing = NEVER;
            for (int on = 0; on < span; on++) {
                stopping[on] = coming[on] & ~needless & ~known;
                if (stopping[on] != 0) {
                    stopAll(stopping[on], now.week + on);
                }
                costs += Integer.bitCount(coming[on] & needless & known);
            }
            return costs;
        }

        private void stopAll(int who, int week) {
            called = 0;
            for (int d = 0; d < now.count; d++) {
                Doing of = now.find(d);
                if (of != null && bit(who, d) != 0) {
                    stop(of, week);
                }
            }
        }

        private void stop(Doing of, int week) {
            if (stops == 0) {
                firstWeek = week;
                firstDoing = of.i;
            }
            stops++;
            boolean isCall = called < now.callsAtFirst() - now.callsFading() * week;
            if (isCall) {
                called++;
                calls++;
            }
            costs += isCall ? 1 : dear[dearCell(of.i, week)];
            if (isCall ? of.isKnownByCall() : of.isKnownByStop()) {
                known |= 1 << of.i;
            }
        }

        /** What the WEEKS looked at cost, if one hands over now by such HOURS. */
        int costHanded(int[] hours) {
            return pass(now.known | goingOver(hours), now.needless);
        }

        /** The HOURS told with one more of a WAY. */
        int[] hourMore(int way) {
            for (int y = 0; y < WAYS; y++) {
                shares[y] = now.hours[y] + (y == way ? 1 : 0);
            }
            return shares;
        }

        /** What the best SPLIT costs; best is how it shares. */
        int bestSplit(int h) {
            int least = Integer.MAX_VALUE;
            for (int pages = 0; pages <= h; pages++) {
                for (int side = 0; side <= h - pages; side++) {
                    for (int asked = 0; asked <= h - pages - side; asked++) {
                        share(pages, side, asked, h - pages - side - asked);
                        int cost = costHanded(shares);
                        if (cost < least) {
                            least = cost;
                            System.arraycopy(shares, 0, best, 0, WAYS);
                        }
                    }
                }
            }
            return least;
        }

        private void share(int pages, int side, int asked, int cases) {
            shares[PAGES] = pages;
            shares[SIDE_BY_SIDE] = side;
            shares[ASKED] = asked;
            shares[CASES] = cases;
        }

        /** The DOING of a set by which it costs least, if it were known (or else needless) now; NEVER: none. */
        int bestOf(int set, boolean asKnown) {
            int found = NEVER, least = Integer.MAX_VALUE;
            for (int d = 0; d < now.count; d++) {
                if (bit(set, d) != 0) {
                    int one = 1 << d;
                    int cost = asKnown ? pass(now.known | one, now.needless) : pass(now.known, now.needless | one);
                    if (cost < least) {
                        least = cost;
                        found = d;
                    }
                }
            }
            return found;
        }

        /** The first row of the LIST that was not so in the latest pass(); NEVER: none. */
        int firstRowNotSo() {
            for (int r = 0; r < now.rows; r++) {
                int on = now.rowWeeks[r] - now.week;
                if (on < 0 || on >= span || bit(stopping[on], now.rowDoings[r]) == 0) {
                    return r;
                }
            }
            return NEVER;
        }
    }

    /** A POST: CLAUSES, their E's kept behind one another as codes, each operator behind what it joins. */
    private static final class Post {
        static final int SAY = 's', COST = 'c', CALL = 'l', FADE = 'f';
        static final int NO_WAY = 9, YEAR = 60, CALL_WITHOUT = 7, FADE_WITHOUT = 1;
        private static final int CLAUSES = 10, NESTED = 4;

        int call, fade;
        private int clauses;
        private final int[] words = new int[CLAUSES];
        private final int[] numbers = new int[CLAUSES];
        private final int[] ends = new int[CLAUSES];
        private final int[] codes = new int[SIGNS];
        private int codeCount;
        // While it is read: THE TEXT, the place come to, and whether what stands there is a FAULT.
        private final byte[] text;
        private int length, at;
        private boolean faulty;

        Post(byte[] text) {
            this.text = text;
        }

        /** Becomes the POST that the first signs of THE TEXT are: -1, or the FAULT. */
        int readFrom(int signs) {
            length = Math.min(signs, text.length);
            at = 0;
            faulty = false;
            clauses = 0;
            codeCount = 0;
            call = CALL_WITHOUT;
            fade = FADE_WITHOUT;
            for (int k = 0; k < CLAUSES && (k == 0 || takes(';')); k++) {
                readClause();
            }
            return !faulty && at == length ? -1 : at;
        }

        private void readClause() {
            int word = readWord();
            needs(' ');
            int n = readNumber();
            if (word == SAY || word == COST) {
                needs(' ');
                readEither(0);
            } else if (word == CALL) {
                call = n;
            } else {
                fade = n;
            }
            if (!faulty && clauses < CLAUSES) {
                words[clauses] = word;
                numbers[clauses] = n;
                ends[clauses] = codeCount;
                clauses++;
            }
        }

        private int readWord() {
            if (takes('s')) {
                needs('a');
                needs('y');
                return SAY;
            }
            if (takes('f')) {
                needs('a');
                needs('d');
                needs('e');
                return FADE;
            }
            needs('c');
            if (takes('o')) {
                needs('s');
                needs('t');
                return COST;
            }
            needs('a');
            needs('l');
            needs('l');
            return CALL;
        }

        private int readNumber() {
            int n = 0, digits = 0;
            while (digits < 2 && here() >= '0' && here() <= '9') {
                n = n * 10 + here() - '0';
                at++;
                digits++;
            }
            if (digits == 0) {
                faulty = true;
            }
            return n;
        }

        private void readEither(int within) {
            for (int k = 0; k < SIGNS && (k == 0 || takes('|')); k++) {
                readPart(within);
                for (int j = 0; j < SIGNS && takes('&'); j++) {
                    readPart(within);
                    keep('&');
                }
                if (k > 0) {
                    keep('|');
                }
            }
        }

        private void readPart(int within) {
            if (within < NESTED && takes('!')) {
                readPart(within + 1);
                keep('!');
            } else if (within < NESTED && takes('(')) {
                readEither(within + 1);
                needs(')');
            } else {
                readTest();
            }
        }

        private void readTest() {
            int letter = here();
            boolean isLetter = letter == 'i' || letter == 'k' || letter == 'r' || letter == 'v'
                    || letter == 'c' || letter == 'y' || letter == 'w';
            takeIf(isLetter);
            int sign = here();
            takeIf(sign == '<' || sign == '=' || sign == '>');
            keep(letter | sign << 8 | readNumber() << 16);
        }

        private void keep(int code) {
            if (!faulty && codeCount < codes.length) {
                codes[codeCount] = code;
                codeCount++;
            }
        }

        /** The sign at the place come to; -1 behind the end, and from a FAULT on. */
        private int here() {
            return faulty || at < 0 || at >= length || at >= text.length ? -1 : text[at];
        }

        private boolean takes(int sign) {
            boolean is = here() == sign;
            if (is) {
                at++;
            }
            return is;
        }

        private void needs(int sign) {
            takeIf(here() == sign);
        }

        private void takeIf(boolean isRight) {
            if (isRight && !faulty) {
                at++;
            } else {
                faulty = true;
            }
        }

        /** The n of all CLAUSES of a word whose E holds, together. */
        int together(int word, Doing of, int y, int w) {
            int sum = 0;
            for (int k = 0; k < clauses; k++) {
                if (words[k] == word && holds(k, of, y, w)) {
                    sum += numbers[k];
                }
            }
            return sum;
        }

        /** Whether a CLAUSE's E holds; the lowest of bits is the newest of the answers not yet joined. */
        private boolean holds(int clause, Doing of, int y, int w) {
            int bits = 0;
            for (int k = clause == 0 ? 0 : ends[clause - 1]; k < ends[clause]; k++) {
                int code = codes[k];
                if (code == '!') {
                    bits ^= 1;
                } else if (code == '&') {
                    bits = bits >> 1 & (bits | ~1);
                } else if (code == '|') {
                    bits = bits >> 1 | bits & 1;
                } else {
                    bits = bits << 1 | (passes(code, of, y, w) ? 1 : 0);
                }
            }
            return (bits & 1) != 0;
        }

        private static boolean passes(int test, Doing of, int y, int w) {
            int is, told = test >> 16;
            switch (test & 255) {
                case 'i': is = of.i; break;
                case 'k': is = of.kind(); break;
                case 'r': is = of.round; break;
                case 'v': is = of.v; break;
                case 'c': is = of.cost / 10; break;
                case 'y': is = y; break;
                default: is = w; break;
            }
            switch (test >> 8 & 255) {
                case '<': return is < told;
                case '=': return is == told;
                default: return is > told;
            }
        }
    }
}
