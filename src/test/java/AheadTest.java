/** Promises 26 to 28: ahead, sentAfter, unused. */
public final class AheadTest {
    private static final String TEXT = "L012020405t010030020t020020500t005000100m007m107m205";

    public static void main(String[] args) {
        refuses();
        aheadIsAsTicks();
        aheadFar();
        sentAfter();
        sentAtTheEnds();
        unused();
        changesNothing();
        Check.end();
    }

    private static CreditExchange busy() {
        CreditExchange x = Check.of(TEXT);
        x.bid(1, 10, 5);
        x.ask(0, 6, 4);
        x.askShort(2, 8, 9);
        x.push(0, 12);
        x.push(2, 6);
        return x;
    }

    private static void refuses() {
        CreditExchange x = busy();
        for (int n : new int[] {-1, 100, Integer.MIN_VALUE, Integer.MAX_VALUE}) {
            Check.refuses("ahead(" + n + ", 0, 0)", Check.ARGUMENT, x, () -> x.ahead(n, 0, 0));
            Check.refuses("ahead(" + n + ", 3, 0)", Check.INDEX, x, () -> x.ahead(n, 3, 0));
            Check.refuses("unused(" + n + ")", Check.ARGUMENT, x, () -> x.unused(n));
        }
        Check.refuses("unused(0)", Check.ARGUMENT, x, () -> x.unused(0));
        for (int what : new int[] {-1, 12, Integer.MIN_VALUE, Integer.MAX_VALUE}) {
            Check.refuses("ahead(0, 0, " + what + ")", Check.ARGUMENT, x, () -> x.ahead(0, 0, what));
            Check.refuses("ahead(0, -1, " + what + ")", Check.INDEX, x, () -> x.ahead(0, -1, what));
        }
        for (int i : new int[] {-1, 8, Integer.MIN_VALUE, Integer.MAX_VALUE}) {
            Check.refuses("sentAfter(0, " + i + ")", Check.ARGUMENT, x, () -> x.sentAfter(0, i));
            Check.refuses("sentAfter(3, " + i + ")", Check.INDEX, x, () -> x.sentAfter(3, i));
            Check.refuses("sentAfter(" + i + ", 0)", Check.INDEX, x, () -> x.sentAfter(i, 0));
        }
    }

    private static void aheadIsAsTicks() {
        CreditExchange x = busy();
        for (int n = 0; n <= 20; n++) {
            CreditExchange y = busy();
            if (n > 0) {
                y.tick(n);
            }
            for (int t = 0; t < 3; t++) {
                for (int what = 0; what <= 11; what++) {
                    Check.is("ahead(" + n + ", " + t + ", " + what + ")", x.ahead(n, t, what), y.tenant(t, what));
                }
            }
        }
        Check.is("the stock after the auction at 2", x.ahead(2, 1, 3), 5);
        Check.is("the debt after the auction at 2", x.ahead(2, 2, 7), 1);
        Check.is("due at 6", x.ahead(2, 2, 8), 6);
    }

    private static void aheadFar() {
        CreditExchange x = Check.of("L010200100t999010000t999000000");
        x.ask(0, 9, 99);
        Check.is("98 ticks", x.ahead(98, 0, 2), 998);
        Check.is("99 ticks", x.ahead(99, 0, 2), 999);
        Check.is("no tick", x.ahead(0, 0, 2), 900);
    }

    private static void sentAfter() {
        // time 1: tenant 1 sends 7, tenant 2 sends 5; tenant 0 waits for room and credits
        CreditExchange x = busy();
        Check.is("tenant 1", x.sentAfter(1, 0), 1);
        Check.is("tenant 2", x.sentAfter(2, 0), 1);
        Check.is("tenant 0", x.sentAfter(0, 0), 2);
        Check.is("12 are more than the bucket of 10 holds", x.sentAfter(0, 1), -9);
        Check.is("no credits any more", x.sentAfter(2, 1), -9);
        Check.is("no such message", x.sentAfter(1, 1), -9);
        Check.is("no such place in any queue", x.sentAfter(1, 7), -9);
        x.tick(1);
        Check.is("one tick less", x.sentAfter(0, 0), 1);
        Check.is("the second one of tenant 2 is the first one now", x.sentAfter(2, 0), -9);
    }

    private static void sentAtTheEnds() {
        CreditExchange x = Check.of("L099200100t099010000m099m099m001");
        Check.is("at once", x.sentAfter(0, 0), 1);
        // the level is 0 after tick 1, and 99 after tick 100
        Check.is("after more than 99 ticks", x.sentAfter(0, 1), -9);
        Check.is("behind it", x.sentAfter(0, 2), -9);
        x.tick(1);
        Check.is("after 99 ticks", x.sentAfter(0, 0), 99);
        Check.is("the one behind it", x.sentAfter(0, 1), -9);
        x.tick(1);
        Check.is("after 98 ticks", x.sentAfter(0, 0), 98);
        Check.is("the one behind it, after 99", x.sentAfter(0, 1), 99);
        CreditExchange y = Check.of("L099200100t099010000" + "m002".repeat(8));
        Check.is("the last one of eight, in the same tick", y.sentAfter(0, 7), 1);
    }

    private static void unused() {
        CreditExchange x = busy();
        Check.is("12 are sent", x.unused(1), 0);
        Check.is("7 are sent", x.unused(2), 5);
        Check.is("nothing is sent then", x.unused(3), 17);
        Check.is("99 ticks", x.unused(99), 12 * 99 - 19);
        x.setWidth(999);
        Check.is("with the width of now", x.unused(2), 2 * 999 - 19);
    }

    private static void changesNothing() {
        CreditExchange x = busy();
        String before = Check.all(x);
        x.ahead(99, 0, 3);
        x.sentAfter(0, 1);
        x.unused(99);
        Check.is("the state", Check.all(x), before);
        Check.is("no actions", x.undo(), 4);
    }
}
