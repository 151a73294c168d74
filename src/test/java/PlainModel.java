import java.math.BigInteger;
import java.util.ArrayList;
import java.util.Arrays;
import java.util.HashSet;
import java.util.List;
import java.util.Set;

/**
 * The document once more, written apart from the class and as slowly as its words: every question is
 * answered by going through all cases, a text is read sign by sign, E's are reckoned from their text.
 */
final class PlainModel {
    static final class Thing implements Cloneable {
        int number, kind, v, round, place, cost, need, odds = 5;
        boolean needless, known;

        Thing copy() {
            try {
                return (Thing) clone();
            } catch (CloneNotSupportedException e) {
                throw new AssertionError(e);
            }
        }
    }

    static final class World {
        List<Thing> things = new ArrayList<>();
        int[] hours = new int[4];
        int week, costs, stops, calls;
        List<int[]> rows = new ArrayList<>();
        int post = -1;
        int firstWeek = -5, firstDoing = -5;
        Set<String> stopped = new HashSet<>();

        World copy() {
            World w = new World();
            for (Thing t : things) {
                w.things.add(t.copy());
            }
            w.hours = hours.clone();
            w.week = week;
            w.costs = costs;
            w.stops = stops;
            w.calls = calls;
            for (int[] r : rows) {
                w.rows.add(r.clone());
            }
            w.post = post;
            return w;
        }
    }

    World now = new World();
    World image;
    final List<String> posts = new ArrayList<>();
    String text = "";
    List<Integer> ran = new ArrayList<>();
    final long[][] tapes = new long[6][];
    final int[] sorts = new int[6];

    // ---- the text, sign by sign

    /** Whether some POST begins with t (whole: whether t is one). */
    static boolean begins(String t, boolean whole) {
        int from = 0, clauses = 0;
        while (true) {
            clauses++;
            int end = t.indexOf(';', from);
            String clause = end < 0 ? t.substring(from) : t.substring(from, end);
            boolean last = end < 0;
            if (clauses > 10 || !clauseBegins(clause, !last || whole)) {
                return false;
            }
            if (last) {
                return true;
            }
            from = end + 1;
        }
    }

    static boolean clauseBegins(String c, boolean whole) {
        for (String word : new String[] {"say ", "cost ", "call ", "fade "}) {
            if (c.length() < word.length()) {
                if (!whole && word.startsWith(c)) {
                    return true;
                }
                continue;
            }
            if (!c.startsWith(word)) {
                continue;
            }
            String rest = c.substring(word.length());
            boolean short_ = word.equals("call ") || word.equals("fade ");
            if (rest.matches("[0-9]{1,2}")) {
                return short_ || !whole;
            }
            if (rest.isEmpty()) {
                return !whole;
            }
            if (short_) {
                return false;
            }
            if (!rest.matches("(?s)[0-9]{1,2} .*")) {
                return false;
            }
            return tail(rest.substring(rest.indexOf(' ') + 1), whole);
        }
        return false;
    }

    /** An E, or how one begins, by a row of what is open: ( or !; the latter end with what they stand ahead of. */
    static boolean tail(String e, boolean whole) {
        StringBuilder open = new StringBuilder();
        boolean wants = true;
        int k = 0;
        while (k < e.length()) {
            char c = e.charAt(k);
            if (wants) {
                if (c == '(' || c == '!') {
                    if (open.length() >= 4) {
                        return false;
                    }
                    open.append(c);
                    k++;
                } else if ("ikrvcyw".indexOf(c) >= 0) {
                    if (k + 1 >= e.length()) {
                        return !whole;
                    }
                    if ("<=>".indexOf(e.charAt(k + 1)) < 0) {
                        return false;
                    }
                    if (k + 2 >= e.length()) {
                        return !whole;
                    }
                    if (!isDigit(e, k + 2)) {
                        return false;
                    }
                    k += isDigit(e, k + 3) ? 4 : 3;
                    wants = false;
                    closeNots(open);
                } else {
                    return false;
                }
            } else if (c == '&' || c == '|') {
                wants = true;
                k++;
            } else if (c == ')' && open.length() > 0) {
                open.setLength(open.length() - 1);
                closeNots(open);
                k++;
            } else {
                return false;
            }
        }
        return !whole || !wants && open.length() == 0;
    }

    static void closeNots(StringBuilder open) {
        while (open.length() > 0 && open.charAt(open.length() - 1) == '!') {
            open.setLength(open.length() - 1);
        }
    }

    static boolean isDigit(String e, int k) {
        return k < e.length() && e.charAt(k) >= '0' && e.charAt(k) <= '9';
    }

    /** -1: t is a POST; else the FAULT. */
    static int fault(String t) {
        if (begins(t, true)) {
            return -1;
        }
        for (int k = 1; k <= t.length(); k++) {
            if (!begins(t.substring(0, k), false)) {
                return k - 1;
            }
        }
        return t.length();
    }

    // ---- E's

    /** Splits at signs that stand in no brackets. */
    static List<String> parts(String e, char at) {
        List<String> parts = new ArrayList<>();
        int deep = 0, from = 0;
        for (int k = 0; k < e.length(); k++) {
            char c = e.charAt(k);
            deep += c == '(' ? 1 : c == ')' ? -1 : 0;
            if (c == at && deep == 0) {
                parts.add(e.substring(from, k));
                from = k + 1;
            }
        }
        parts.add(e.substring(from));
        return parts;
    }

    static boolean holds(String e, Thing t, int y, int w) {
        List<String> ors = parts(e, '|');
        if (ors.size() > 1) {
            return ors.stream().anyMatch(p -> holds(p, t, y, w));
        }
        List<String> ands = parts(e, '&');
        if (ands.size() > 1) {
            return ands.stream().allMatch(p -> holds(p, t, y, w));
        }
        if (e.charAt(0) == '!') {
            return !holds(e.substring(1), t, y, w);
        }
        if (e.charAt(0) == '(') {
            return holds(e.substring(1, e.length() - 1), t, y, w);
        }
        int n = Integer.parseInt(e.substring(2));
        int is = switch (e.charAt(0)) {
            case 'i' -> t.number;
            case 'k' -> t.kind;
            case 'r' -> t.round;
            case 'v' -> t.v;
            case 'c' -> t.cost / 10;
            case 'y' -> y;
            default -> w;
        };
        return e.charAt(1) == '<' ? is < n : e.charAt(1) == '=' ? is == n : is > n;
    }

    int together(World x, String word, Thing t, int y, int w) {
        int sum = 0;
        if (x.post >= 0) {
            for (String clause : posts.get(x.post).split(";")) {
                String[] c = clause.split(" ");
                if (c[0].equals(word) && holds(c[2], t, y, w)) {
                    sum += Integer.parseInt(c[1]);
                }
            }
        }
        return sum;
    }

    int last(World x, String word, int without) {
        int n = without;
        if (x.post >= 0) {
            for (String clause : posts.get(x.post).split(";")) {
                if (clause.startsWith(word)) {
                    n = Integer.parseInt(clause.split(" ")[1]);
                }
            }
        }
        return n;
    }

    // ---- said, weeks

    static final int[] ABOVE = {-1, 0, 0, 0, 1, 2, 3};

    static boolean under(int kind, int k) {
        for (int at = kind; at >= 0; at = ABOVE[at]) {
            if (at == k) {
                return true;
            }
        }
        return false;
    }

    int saidBy(World x, Thing t, int way) {
        return together(x, "say", t, way, 0);
    }

    int said(World x, Thing t) {
        int[] by = new int[4];
        for (int y = 0; y < 4; y++) {
            by[y] = x.hours[y] * saidBy(x, t, y);
        }
        int all = by[0] + by[1] + by[2] + by[3];
        int rare = x.hours[3] > 0 ? all : 0;
        return switch (t.kind) {
            case 0 -> all;
            case 1 -> all + t.v * x.hours[0];
            case 2 -> by[2] + by[3];
            case 3 -> rare;
            case 4 -> all + t.v * x.hours[0] + (x.hours[2] > 0 ? t.v : 0);
            case 5 -> by[2] + by[3] + 2 * t.v * x.hours[1];
            default -> rare - t.v;
        };
    }

    int dear(World x, Thing t, int week) {
        return t.cost + together(x, "cost", t, 9, week % 60);
    }

    int handOver(World x) {
        int fresh = 0;
        for (Thing t : x.things) {
            if (said(x, t) >= t.need && !t.known) {
                t.known = true;
                fresh++;
            }
        }
        return fresh;
    }

    void goWeek(World x) {
        int calls = 0;
        for (Thing t : x.things) {
            if (x.week % t.round != t.place || t.needless || t.known) {
                continue;
            }
            x.stops++;
            x.stopped.add(x.week + " " + t.number);
            if (x.firstWeek < 0) {
                x.firstWeek = x.week;
                x.firstDoing = t.number;
            }
            if (calls < last(x, "call", 7) - last(x, "fade", 1) * x.week) {
                calls++;
                x.calls++;
                x.costs++;
                t.known = t.kind != 6;
            } else {
                x.costs += dear(x, t, x.week);
                t.known = under(t.kind, 3) && t.v == 0 || under(t.kind, 2) && t.v > 4;
            }
        }
        for (Thing t : x.things) {
            if (x.week % t.round == t.place && t.needless && t.known) {
                x.costs++;
            }
        }
        x.week++;
    }

    World after(World from, int n) {
        World x = from.copy();
        for (int k = 0; k < n; k++) {
            goWeek(x);
        }
        return x;
    }

    int costOf(World from, int n, boolean handed) {
        World x = from.copy();
        if (handed) {
            handOver(x);
        }
        return after(x, n).costs - from.costs;
    }

    static int knows(World x) {
        return (int) x.things.stream().filter(t -> t.known).count();
    }

    // ---- the face

    Thing thing(int d) {
        return d >= 0 && d < now.things.size() ? now.things.get(d) : null;
    }

    static boolean in(int n, int a, int b) {
        return a <= n && n <= b;
    }

    int doing(int kind, int v, int round, int place, int cost, int need) {
        if (!in(kind, 0, 6)) {
            return -1;
        }
        if (!in(v, 0, 9) || !in(round, 1, 60) || !in(place, 0, round - 1) || !in(cost, 0, 99) || !in(need, 0, 99)) {
            return -2;
        }
        if (now.things.size() == 10) {
            return -4;
        }
        Thing t = new Thing();
        t.number = now.things.size();
        t.kind = kind;
        t.v = v;
        t.round = round;
        t.place = place;
        t.cost = cost;
        t.need = need;
        now.things.add(t);
        return t.number;
    }

    int of(int d, int what) {
        Thing t = thing(d);
        if (t == null || !in(what, 0, 11)) {
            return -10001;
        }
        return new int[] {t.kind, t.v, t.round, t.place, t.cost, t.need, t.needless ? 1 : 0, t.known ? 1 : 0,
                said(now, t), said(now, t) >= t.need ? 1 : 0, dear(now, t, now.week), t.odds}[what];
    }

    int needless(int d, boolean is) {
        Thing t = thing(d);
        if (t == null) {
            return -1;
        }
        boolean was = t.needless;
        t.needless = is;
        return was ? 1 : 0;
    }

    int learn(int d, boolean is) {
        Thing t = thing(d);
        if (t == null) {
            return -1;
        }
        boolean was = t.known;
        t.known = is;
        return was ? 1 : 0;
    }

    int odds(int d, int n) {
        Thing t = thing(d);
        if (t == null) {
            return -1;
        }
        if (!in(n, 0, 10)) {
            return -2;
        }
        int were = t.odds;
        t.odds = n;
        return were;
    }

    int hours(int way, int n) {
        if (!in(way, 0, 3)) {
            return -1;
        }
        if (!in(n, 0, 9)) {
            return -2;
        }
        int were = now.hours[way];
        now.hours[way] = n;
        return were;
    }

    int feed(int sign) {
        if (!in(sign, 0, 127)) {
            return -2;
        }
        if (text.length() == 100) {
            return -4;
        }
        text += (char) sign;
        return text.length();
    }

    int post() {
        if (posts.size() == 6) {
            return -4;
        }
        String t = text;
        text = "";
        int fault = fault(t);
        if (fault >= 0) {
            return -10 - fault;
        }
        posts.add(t);
        now.post = posts.size() - 1;
        return now.post;
    }

    int told(int what) {
        if (in(what, 10, 13)) {
            return now.hours[what - 10];
        }
        if (!in(what, 0, 5)) {
            return -1;
        }
        return new int[] {last(now, "call", 7), last(now, "fade", 1), now.week, now.costs, now.stops, now.calls}[what];
    }

    int said(int d, int way) {
        return thing(d) == null || !in(way, 0, 3) ? -1 : saidBy(now, thing(d), way);
    }

    int hand() {
        return handOver(now);
    }

    int go(int n) {
        if (!in(n, 1, 60)) {
            return -2;
        }
        if (now.week + n > 9999) {
            return -3;
        }
        now = after(now, n);
        now.firstWeek = -5;
        now.firstDoing = -5;
        now.stopped.clear();
        return now.week;
    }

    int run(int n, int what) {
        if (!in(what, 0, 5)) {
            return -10001;
        }
        if (!in(n, 0, 200)) {
            return -10002;
        }
        World x = after(now, n);
        return new int[] {x.costs - now.costs, x.stops - now.stops, x.calls - now.calls, knows(x),
                x.firstWeek, x.firstDoing}[what];
    }

    int split(int h, int n, int way) {
        if (!in(way, -1, 3)) {
            return -10001;
        }
        if (!in(h, 0, 9) || !in(n, 0, 60)) {
            return -10002;
        }
        int least = Integer.MAX_VALUE;
        int[] best = null;
        for (int row = 0; row < 10000; row++) {
            int[] share = {row / 1000, row / 100 % 10, row / 10 % 10, row % 10};
            if (Arrays.stream(share).sum() == h) {
                World x = now.copy();
                x.hours = share;
                int cost = costOf(x, n, true);
                if (cost < least) {
                    least = cost;
                    best = share;
                }
            }
        }
        return way < 0 ? least : best[way];
    }

    int more(int way, int n) {
        if (!in(way, 0, 3)) {
            return -10001;
        }
        if (!in(n, 0, 60)) {
            return -10002;
        }
        if (now.hours[way] == 9) {
            return 0;
        }
        World x = now.copy();
        x.hours[way]++;
        return costOf(now, n, true) - costOf(x, n, true);
    }

    int bestChange(int n, boolean ask) {
        if (!in(n, 0, 60)) {
            return -2;
        }
        int best = -5, least = 0;
        for (Thing t : now.things) {
            if (ask ? !t.known : !t.needless) {
                World x = now.copy();
                if (ask) {
                    x.things.get(t.number).known = true;
                } else {
                    x.things.get(t.number).needless = true;
                }
                int cost = costOf(x, n, false);
                if (best == -5 || cost < least) {
                    best = t.number;
                    least = cost;
                }
            }
        }
        return best;
    }

    int when(int d) {
        Thing t = thing(d);
        if (t == null) {
            return -1;
        }
        int week = now.week;
        while (week % t.round != t.place) {
            week++;
        }
        return week;
    }

    int busiest(int n, int what) {
        if (!in(what, 0, 1)) {
            return -1;
        }
        if (!in(n, 1, 200)) {
            return -2;
        }
        int[] many = new int[n];
        for (Thing t : now.things) {
            for (int k = 0; k < n; k++) {
                many[k] += (now.week + k) % t.round == t.place ? 1 : 0;
            }
        }
        int most = Arrays.stream(many).max().getAsInt();
        for (int k = 0; k < n; k++) {
            if (many[k] == most) {
                return what == 0 ? now.week + k : most;
            }
        }
        return -99;
    }

    int all(int set) {
        if (set == 0 || Integer.toUnsignedLong(set) >= 1L << now.things.size()) {
            return -2;
        }
        for (int k = 0; k <= 3600; k++) {
            boolean all = true;
            for (Thing t : now.things) {
                all &= (set >> t.number & 1) == 0 || (now.week + k) % t.round == t.place;
            }
            if (all) {
                return k;
            }
        }
        return -5;
    }

    int list(int weeks, int d) {
        if (weeks == -1) {
            now.rows.clear();
            return 0;
        }
        if (!in(weeks, 0, 99)) {
            return -2;
        }
        if (thing(d) == null) {
            return -1;
        }
        if (now.rows.size() == 12) {
            return -4;
        }
        now.rows.add(new int[] {now.week + weeks, d});
        return now.rows.size();
    }

    int lookedFrom(World from) {
        World x = after(from, 100);
        for (int r = 0; r < now.rows.size(); r++) {
            if (!x.stopped.contains(now.rows.get(r)[0] + " " + now.rows.get(r)[1])) {
                return r;
            }
        }
        return -5;
    }

    int looked() {
        return lookedFrom(now);
    }

    World withKnown(int set) {
        World x = now.copy();
        for (Thing t : x.things) {
            t.known = (set >> t.number & 1) != 0;
        }
        return x;
    }

    int fits() {
        if (now.things.size() > 8) {
            return -9;
        }
        int many = 0;
        for (int set = 0; set < 1 << now.things.size(); set++) {
            many += lookedFrom(withKnown(set)) == -5 ? 1 : 0;
        }
        return many;
    }

    long chance(int n, int part) {
        if (!in(n, 0, 60) || !in(part, 0, 1)) {
            return Long.MIN_VALUE;
        }
        BigInteger above = BigInteger.ZERO, below = BigInteger.TEN.pow(now.things.size());
        for (int set = 0; set < 1 << now.things.size(); set++) {
            if (after(withKnown(set), n).stops == now.stops) {
                BigInteger odds = BigInteger.ONE;
                for (Thing t : now.things) {
                    odds = odds.multiply(BigInteger.valueOf((set >> t.number & 1) != 0 ? t.odds : 10 - t.odds));
                }
                above = above.add(odds);
            }
        }
        BigInteger shared = above.gcd(below);
        return (part == 0 ? above : below).divide(shared).longValueExact();
    }

    int judge(int tape, int i) {
        if (!in(tape, 0, 5)) {
            return -1;
        }
        if (tapes[tape] != null && sorts[tape] != 4) {
            return -12;
        }
        for (Thing t : now.things) {
            long place = (long) i + t.number;
            if (tapes[tape] == null || i < 0 || place >= tapes[tape].length) {
                return 100 + t.number;
            }
            if ((tapes[tape][(int) place] != 0) != t.known) {
                return t.number;
            }
        }
        return -5;
    }

    int image() {
        image = now.copy();
        return now.things.size();
    }

    int undo() {
        if (image == null) {
            return -3;
        }
        now = image.copy();
        return now.things.size();
    }

    /** Which body a KIND has of says, holds, tells; 0: none. */
    static final int[][] BODIES = {{10, 11, 12}, {0, 20, 0}, {30, 0, 0}, {0, 0, 40}, {50, 51, 0}, {0, 0, 60}, {71, 70, 0}};

    int does(Thing t, int from, int act, int x) {
        int at = from;
        while (BODIES[at][act] == 0) {
            at = ABOVE[at];
        }
        ran.add(BODIES[at][act]);
        int above = ABOVE[at];
        switch (BODIES[at][act]) {
            case 10: return x + t.number;
            case 11: return does(t, t.kind, 0, x) - t.v;
            case 12: return does(t, t.kind, 1, x) * 2;
            case 20: return does(t, above, 1, x) ^ 6;
            case 30: return does(t, above, 0, x * 3);
            case 40: {
                int first = does(t, above, 2, x);
                return first + does(t, t.kind, 1, 1);
            }
            case 50: return -does(t, above, 0, x);
            case 51: return does(t, above, 1, x + 1);
            case 60: return does(t, above, 2, x - t.number);
            case 70: {
                int first = does(t, above, 1, x);
                return first + does(t, above, 0, 2);
            }
            default: return does(t, above, 0, x) ^ t.v;
        }
    }

    int act(int d, int act, int x) {
        ran = new ArrayList<>();
        return thing(d) == null || !in(act, 0, 2) ? 0 : does(thing(d), thing(d).kind, act, x);
    }

    int trace(int i) {
        return in(i, 0, Math.min(20, ran.size()) - 1) ? ran.get(i) : -1;
    }

    int taken(int d, int k) {
        if (!in(k, 0, 6)) {
            return -2;
        }
        if (thing(d) == null) {
            return -11;
        }
        return under(thing(d).kind, k) ? thing(d).kind : -12;
    }

    int count(int what) {
        if (!in(what, 0, 5)) {
            return -2;
        }
        return new int[] {now.things.size(), posts.size(), now.rows.size(), text.length(), ran.size(), knows(now)}[what];
    }

    int tape(int tape, int sort, int n) {
        if (!in(tape, 0, 5)) {
            return -1;
        }
        if (sort == -1) {
            tapes[tape] = null;
            return 1;
        }
        if (!in(sort, 0, 4) || n > 60) {
            return -2;
        }
        if (n < 0) {
            return -14;
        }
        tapes[tape] = new long[n];
        sorts[tape] = sort;
        return 1;
    }

    int item(int tape, int i, long v) {
        if (!in(tape, 0, 5)) {
            return -1;
        }
        if (tapes[tape] == null) {
            return -11;
        }
        if (!in(i, 0, tapes[tape].length - 1)) {
            return -13;
        }
        int gone = new int[] {56, 48, 32, 0, 0}[sorts[tape]];
        tapes[tape][i] = sorts[tape] == 4 ? v != 0 ? 1 : 0 : v << gone >> gone;
        return 1;
    }

    long read(int tape, int i) {
        boolean is = in(tape, 0, 5) && tapes[tape] != null && in(i, 0, tapes[tape].length - 1);
        return is ? tapes[tape][i] : Long.MIN_VALUE;
    }

    int shift(int tape, int i, int other, int j, int n) {
        if (!in(tape, 0, 5) || !in(other, 0, 5)) {
            return -1;
        }
        if (tapes[tape] == null || tapes[other] == null) {
            return -11;
        }
        if (sorts[tape] != sorts[other]) {
            return -12;
        }
        if (n < 0 || i < 0 || j < 0 || (long) i + n > tapes[tape].length || (long) j + n > tapes[other].length) {
            return -13;
        }
        long[] were = tapes[tape].clone();
        for (int k = 0; k < n; k++) {
            tapes[other][j + k] = were[i + k];
        }
        return n;
    }
}
