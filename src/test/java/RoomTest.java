import java.lang.management.ManagementFactory;
import java.util.Random;

/**
 * An object is made of little, and calls make nothing: all calls of one run live in one room. The dearest calls, with
 * as many ORDERS as there can be, end soon.
 */
public final class RoomTest {
    private static final int CALLS = 512;
    private static final long BYTES_OF_AN_OBJECT = 8_000;
    private static final long SECONDS = 120;

    private static int wrong = 0;
    /** Keeps the calls from being left out as useless. */
    private static int sum = 0;

    public static void main(String[] args) {
        long start = System.nanoTime();
        dearRun();
        calls();
        objects();
        long seconds = (System.nanoTime() - start) / 1_000_000_000L;
        check(seconds < SECONDS, "the dearest runs took " + seconds + " s");
        System.out.println(wrong == 0 ? "the room is kept (" + sum + ")" : wrong + " limits are not kept");
        if (wrong != 0) {
            System.exit(1);
        }
    }

    private static void check(boolean good, String what) {
        if (!good) {
            wrong++;
            System.out.println(what);
        }
    }

    private static void calls() {
        long before = allocated();
        long nothing = allocated() - before;
        CarOrders x = dear();
        before = allocated();
        ask(x);
        long bytes = allocated() - before - nothing;
        check(bytes < BYTES_OF_AN_OBJECT, CALLS + " calls made objects of " + bytes + " bytes");
    }

    private static void objects() {
        CarOrders[] kept = new CarOrders[1000];
        long before = allocated();
        for (int n = 0; n < kept.length; n++) {
            kept[n] = new CarOrders();
        }
        long bytes = (allocated() - before) / kept.length;
        check(bytes < BYTES_OF_AN_OBJECT, "an object takes " + bytes + " bytes");
        sum += kept[999].count(3);
    }

    private static long allocated() {
        com.sun.management.ThreadMXBean threads =
            (com.sun.management.ThreadMXBean) ManagementFactory.getThreadMXBean();
        return threads.getThreadAllocatedBytes(Thread.currentThread().getId());
    }

    private static void dearRun() {
        for (int n = 0; n < 3; n++) {
            ask(dear());
        }
    }

    /** As many ORDERS as there can be, and a pad that tells nothing. */
    private static CarOrders dear() {
        CarOrders x = new CarOrders();
        for (int cls = 0; cls < 5; cls++) {
            x.options(cls, 1 + 3 * cls);
            x.demand(cls, cls == 4 ? 1 : 2);
        }
        for (int option = 0; option < 4; option++) {
            x.option(option, 2, 5);
        }
        return x;
    }

    /** Nearly each second call changes something, so that nothing that was found out holds for long. */
    private static void ask(CarOrders x) {
        Random random = new Random(5);
        for (int n = 0; n < CALLS; n += 2) {
            int change = random.nextInt(16);
            sum += x.options(n % 5, change);
            switch (n / 2 % 8) {
                case 0: sum += x.fits(-1); break;
                case 1: sum += x.least(8); break;
                case 2: sum += x.orders(1); break;
                case 3: sum += x.orders(2); break;
                case 4: sum += x.near(-1); break;
                case 5: sum += x.image(n % 2) + x.restore(n % 2); break;
                case 6: sum += x.say('0' + n % 5); break;
                default: sum += x.lane(2) + x.filled(-1) + x.row(2); break;
            }
        }
    }
}
