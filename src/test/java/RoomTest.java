import java.lang.management.ManagementFactory;

/** The room that the dearest calls take: a run of 512 of them stays far below what is given. */
public final class RoomTest {
    private static final String TEXT = "L999012099t999999999t999999999t999999999t999999999t999999999t999999999";
    /** The given room has 7.3 million fields and elements, so at least four times as many bytes. */
    private static final long MOST_BYTES = 2_000_000;

    /** An object with all its remembered states and both slots, whatever is called then. */
    private static final long MOST_BYTES_OF_ONE_OBJECT = 100_000;

    private static long sum = 0;

    public static void main(String[] args) {
        measure("one object and 512 calls", RoomTest::oneRun, MOST_BYTES);
        measure("100 objects", RoomTest::manyObjects, MOST_BYTES);
        measure("slots that are emptied and filled again", RoomTest::slotsAgain, MOST_BYTES_OF_ONE_OBJECT);
        measure("states that are forgotten and remembered again", RoomTest::statesAgain, MOST_BYTES_OF_ONE_OBJECT);
        Check.end();
    }

    private static void measure(String what, Runnable calls, long most) {
        com.sun.management.ThreadMXBean bean = (com.sun.management.ThreadMXBean) ManagementFactory.getThreadMXBean();
        long thread = Thread.currentThread().getId();
        long before = bean.getThreadAllocatedBytes(thread);
        calls.run();
        long bytes = bean.getThreadAllocatedBytes(thread) - before;
        System.out.println(what + ": " + bytes + " bytes");
        Check.that(what + " took " + bytes + " bytes", bytes < most);
    }

    private static void oneRun() {
        CreditExchange x = Check.of(TEXT);
        for (int k = 0; k < 36; k++) {
            sum += x.push(k % 6, 99);
            sum += x.askShort(k % 6, 40 + k % 9, 1 + k % 5);
            sum += x.bid(k % 5, 60, 1 + k % 5);
            sum += x.simulate(k, 60);
            sum += x.share(k % 6, true);
            sum += x.priceFor(99);
            sum += x.ahead(99, 0, 3);
            sum += x.sentAfter(k % 6, 0);
            sum += x.runScript(3, 400050400050400050L);
            sum += x.tick(5 + k % 3);
            sum += x.save(k % 2);
            sum += x.errorPosition();
        }
        for (int k = 0; k < 3; k++) {
            sum += x.load() + x.save(0) + x.save(1);
        }
    }

    private static void slotsAgain() {
        CreditExchange x = Check.of(TEXT);
        for (int k = 0; k < 140; k++) {
            sum += x.save(0) + x.save(1) + x.load();
        }
    }

    private static void statesAgain() {
        CreditExchange x = Check.of(TEXT);
        for (int k = 0; k < 28; k++) {
            for (int n = 0; n < 14; n++) {
                sum += x.setWidth(7 + n);
            }
            sum += x.load();
        }
    }

    private static void manyObjects() {
        for (int k = 0; k < 100; k++) {
            sum += new CreditExchange().tick(1);
        }
    }
}
