import java.lang.management.ManagementFactory;
import java.util.Random;

/** No call makes anything that stays, none throws for any arguments, and a new object is small. */
public final class RoomTest {
    private static final com.sun.management.ThreadMXBean THREADS =
            (com.sun.management.ThreadMXBean) ManagementFactory.getThreadMXBean();
    private static long sink = 0;

    public static void main(String[] args) {
        run(new ApologyUp(), 1);
        long empty = made();
        empty = made() - empty;
        long start = made();
        ApologyUp first = new ApologyUp();
        long object = made() - start - empty;
        Checks.due("bytes of a new object above 200000", object > 200000, false);
        run(first, 2);
        for (int seed = 3; seed < 40; seed++) {
            ApologyUp up = new ApologyUp();
            start = made();
            run(up, seed);
            long bytes = made() - start - empty;
            // The run's own random source is all that is made.
            Checks.due("bytes made by 512 calls", bytes > 10000, false);
        }
        Checks.finish("RoomTest");
    }

    private static long made() {
        return THREADS.getThreadAllocatedBytes(Thread.currentThread().getId());
    }

    private static int any(Random random) {
        switch (random.nextInt(12)) {
            case 0: return random.nextInt();
            case 1: return Integer.MIN_VALUE;
            case 2: return Integer.MAX_VALUE;
            case 3: return -1 - random.nextInt(5);
            case 4: return random.nextInt(10001);
            default: return random.nextInt(10);
        }
    }

    /** 512 calls of all kinds with any arguments, behind a start in which most of them mean something. */
    private static void run(ApologyUp up, int seed) {
        Random random = new Random(seed);
        for (int i = 0; i < 10; i++) {
            up.officer(i - 1 - (i > 3 ? i % 3 : 0), i);
        }
        // adds if 1<2 then halves who by 1 else ranks 3 end;
        up.feed(0x61646473, 0x20696620, 0x313c3220, 0x7468656e, 0x2068616c);
        up.feed(0x76657320, 0x77686f20, 0x62792031, 0x20656c73, 0x65207261);
        up.feed(0x6e6b7320, 0x3320656e, 0x643b2020, 0x20202020, 0x20202020);
        Checks.due("the text is right", up.text(), 0);
        up.by(0);
        for (int i = 13; i < 512; i++) {
            sink += call(up, random.nextInt(48), any(random), any(random), any(random), random.nextBoolean());
        }
    }

    private static long call(ApologyUp up, int which, int a, int b, int c, boolean d) {
        switch (which) {
            case 0: return up.officer(a, b);
            case 1: return up.cousin(a, b) ? 1 : 0;
            case 2: return up.feed(a, b, c, a, b);
            case 3: return up.end(a);
            case 4: return up.text();
            case 5: return up.fault(a);
            case 6: return up.by(a) ? 1 : 0;
            case 7: return up.wrong(a, b, c);
            case 8: return up.away(a, b) ? 1 : 0;
            case 9: return up.sideways(a, b) ? 1 : 0;
            case 10: return up.day(a);
            case 11: return up.played(a);
            case 12: return up.years(a, b);
            case 13: return up.undo();
            case 14: return up.of(a, b);
            case 15: return up.ofApology(a, b);
            case 16: return up.is(a);
            case 17: return up.book(a, b);
            case 18: return up.foretold(a, b, c);
            case 19: return up.pardoned(a);
            case 20: return up.meets(a, b);
            case 21: return up.steps(a, b);
            case 22: return up.route(a, b, c);
            case 23: return up.pile(a);
            case 24: return up.piles(a, b);
            default: return callLater(up, which, a, b, c, d);
        }
    }

    private static long callLater(ApologyUp up, int which, int a, int b, int c, boolean d) {
        switch (which) {
            case 25: return up.ask(a);
            case 26: return up.orders();
            case 27: return up.first(a);
            case 28: return up.weigh(a, b) ? 1 : 0;
            case 29: return up.apart(d);
            case 30: return up.middle();
            case 31: return up.longest(d);
            case 32: return up.parts(a);
            case 33: return up.deputies();
            case 34: return up.ranked(a, d);
            case 35: return up.owes(a, b, c) ? 1 : 0;
            case 36: return up.play(a, d);
            case 37: return up.added(a, b);
            case 38: return up.whose();
            case 39: return up.stuck();
            case 40: return up.eldest();
            case 41: return up.sorry(a);
            case 42: return up.befell(a);
            case 43: return up.image();
            case 44: return a % 8 == 0 ? up.back() : 0;
            case 45: return up.about(a);
            case 46: return up.wrong(a, 0, 1 + (b & 31));
            default: return up.day(1 + (a & 3));
        }
    }
}
