import java.lang.management.ManagementFactory;

/** All calls of one run live in one room that is never swept: what is asked, and the weeks that go, make nothing. */
public final class RoomTest {
    private static final com.sun.management.ThreadMXBean ROOM =
            (com.sun.management.ThreadMXBean) ManagementFactory.getThreadMXBean();
    private static long sum;

    private static long bytes() {
        return ROOM.getThreadAllocatedBytes(Thread.currentThread().getId());
    }

    private static NextOneKnows filled() {
        NextOneKnows x = new NextOneKnows();
        for (int d = 0; d < 8; d++) {
            x.doing(d % 7, 1, 1, 0, 9, 9);
            x.list(d, d);
        }
        return x;
    }

    private static void oneOfEach(NextOneKnows x) {
        for (char sign : new char[] {'s', 'a', 'y', ' ', '1', ' ', 'y', '=', '1'}) {
            sum += x.feed(sign);
        }
        sum += x.post() + x.split(9, 60, 0) + x.more(1, 60) + x.ask(60) + x.drop(60) + x.run(200, 0) + x.fits() + x.looked();
        sum += x.chance(60, 1) + x.all(255) + x.busiest(200, 0) + x.image() + x.undo() + x.hand() + x.go(1) + x.act(6, 2, 5);
        sum += x.of(0, 8) + x.tape(0, 4, 60) + x.item(0, 3, 1) + x.read(0, 3) + x.shift(0, 0, 0, 1, 5) + x.judge(0, 0);
    }

    public static void main(String[] args) {
        NextOneKnows x = filled();
        oneOfEach(x);
        bytes();
        long before = bytes();
        for (int k = 0; k < 100; k++) {
            oneOfEach(x);
        }
        // The row of signs that oneOfEach() itself makes is some 40 bytes each time.
        long calls = bytes() - before;
        before = bytes();
        NextOneKnows fresh = new NextOneKnows();
        long object = bytes() - before;
        before = bytes();
        sum += fresh.doing(1, 1, 1, 0, 1, 1);
        long doing = bytes() - before;
        System.out.println("bytes: 100 rounds of calls " + calls + ", an object " + object + ", a doing " + doing + " (" + sum % 2 + ")");
        if (calls > 6000 || object > 20000 || doing > 100) {
            System.out.println("too much room");
            System.exit(1);
        }
    }
}
