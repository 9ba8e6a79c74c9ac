import java.lang.management.ManagementFactory;

/** All calls of a run live in one room: an object is small, and no call makes anything. */
public final class RoomRuns {
    private static final com.sun.management.ThreadMXBean THREADS =
        (com.sun.management.ThreadMXBean) ManagementFactory.getThreadMXBean();

    private static void fill(SilkHouse x) {
        for (int b = 0; b < 10; b++) {
            x.bale(1000 + b);
        }
        for (int k = 0; k < 60; k++) {
            x.skein(k / 24, k % 2, k % 4, 1000, 900 + k * 7 % 11, k % 4, k % 8);
            x.test(k % 4, 1000 + k % 7, 1000);
        }
        for (int r = 0; r < 8; r++) {
            x.feed(8, 0x74616b65206d6561L);
            x.feed(2, 0x6e3bL);
            x.rule(r);
        }
        for (int k = 0; k < 8; k++) {
            x.load(100 + k);
            x.shared(10 + k, 20 + k, 10, 20 + k);
            x.thread(0, 10 + k);
            x.turns(0, 50 - k);
        }
    }

    private static long ask(SilkHouse x) {
        long sum = x.needed(0, 1) + x.cause(0, -1) + x.odd(0, 0) + x.order(3, -1) + x.houses(2) + x.order(2, 1);
        sum += x.count(7) + x.count(8) + x.count(10) + x.certify(0) + x.undo(0) + x.lawful(0, 0, 0) + x.span(0, 3);
        sum += x.size(0, 3) + x.named(0, 5) + x.twist(0) + x.cheat(0, 1, 2, 3) + x.force(0, 9) + x.letter(0, 0);
        return sum + x.state(0, 0) + x.ratio(0, 0, 0) + x.told(0, 3) + x.error(0, 5, 0) + x.stood(0, 1);
    }

    private static long used() {
        return THREADS.getThreadAllocatedBytes(Thread.currentThread().getId());
    }

    public static void main(String[] args) {
        long sum = 0;
        fill(new SilkHouse());
        long before = used();
        SilkHouse x = new SilkHouse();
        long made = used() - before;
        fill(x);
        ask(x);
        long full = used();
        for (int k = 0; k < 20; k++) {
            sum += ask(x);
        }
        long more = used() - full;
        System.out.println("an object takes " + made + " bytes, twenty rounds of calls " + more + " (" + sum + ")");
        // Asking how much was made may itself make a little.
        if (made > 20000 || more > 2000) {
            System.out.println("that is too much");
            System.exit(1);
        }
    }
}
