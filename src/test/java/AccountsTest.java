/** Promises 29 and 30: fairness, wealthiest. */
public final class AccountsTest {
    public static void main(String[] args) {
        fairness();
        fairnessOfLargeNumbers();
        wealthBeforeAnAuction();
        wealthAfterAnAuction();
        refuses();
        Check.end();
    }

    private static void fair(CreditExchange x, long upper, long lower) {
        Check.is("fairness(true)", x.fairness(true), upper);
        Check.is("fairness(false)", x.fairness(false), lower);
    }

    private static void fairness() {
        fair(new CreditExchange(), 1, 1);
        CreditExchange x = Check.of("L999010100t999000000t999000000t999000000");
        fair(x, 1, 1);
        x.push(1, 4);
        fair(x, 1, 1);
        x.tick(1);
        fair(x, 1, 3);
        x.push(0, 2);
        x.tick(1);
        // (4 + 2)^2 / (3 * (16 + 4))
        fair(x, 3, 5);
        x.push(2, 4);
        x.push(0, 2);
        x.tick(1);
        fair(x, 1, 1);
        x.push(0, 1);
        x.tick(1);
        // 13^2 / (3 * (25 + 16 + 16))
        fair(x, 169, 171);
        x.undo();
        fair(x, 1, 1);
    }

    private static void fairnessOfLargeNumbers() {
        CreditExchange x = Check.of("L999010100t999990000t999990000");
        for (int k = 0; k < 60; k++) {
            for (int i = 0; i < 5; i++) {
                x.push(0, 99);
            }
            x.tick(6);
        }
        x.push(1, 1);
        x.tick(1);
        Check.is("what was sent", x.tenant(0, 10), 29700);
        // 29701^2 / (2 * (29700^2 + 1)): no int holds it
        fair(x, 29701L * 29701, 2 * (29700L * 29700 + 1));
    }

    private static void ranked(CreditExchange x, int... tenants) {
        for (int i = 0; i < tenants.length; i++) {
            Check.is("wealthiest(" + i + ")", x.wealthiest(i), tenants[i]);
        }
    }

    private static void wealthBeforeAnAuction() {
        CreditExchange x = Check.of("L999010100t001000050t999000040t050000050t001000060");
        ranked(x, 3, 0, 2, 1);
        x.bid(3, 2, 30);
        x.ask(1, 90, 40);
        ranked(x, 3, 0, 2, 1);
        x.deposit(1, 10);
        ranked(x, 3, 0, 1, 2);
        x.deposit(1, 11);
        ranked(x, 1, 3, 0, 2);
        ranked(new CreditExchange(), 0);
    }

    private static void wealthAfterAnAuction() {
        CreditExchange x = Check.of("L999012000t010000100t030000000t001000200");
        x.askShort(1, 4, 9);
        x.bid(2, 6, 9);
        x.tick(1);
        Check.is("the price", x.about(7), 5);
        // 0: 100 + 5 * 10; 1: 45 + 5 * (30 - 9); 2: 155 + 5 * (1 + 9)
        ranked(x, 2, 0, 1);
        x.ask(1, 90, 30);
        x.bid(2, 1, 99);
        ranked(x, 2, 0, 1);
        x.deposit(1, 1);
        ranked(x, 2, 1, 0);
        x.deposit(1, 55);
        ranked(x, 1, 2, 0);
        x.undo();
        x.deposit(1, 54);
        ranked(x, 1, 2, 0);
        x.undo();
        x.deposit(1, 53);
        ranked(x, 2, 1, 0);
        // debts may be greater than all credits
        CreditExchange y = Check.of("L999012000t001000000t001000000t001005000");
        y.askShort(0, 1, 90);
        y.bid(2, 1, 90);
        y.tick(1);
        y.bid(2, 50, 1);
        y.ask(1, 50, 1);
        y.tick(1);
        Check.is("the price", y.about(7), 50);
        ranked(y, 2, 1, 0);
    }

    private static void refuses() {
        CreditExchange x = Check.of("L999010100t001000050t999000040");
        for (int i : new int[] {-1, 2, 6, Integer.MIN_VALUE, Integer.MAX_VALUE}) {
            Check.refuses("wealthiest(" + i + ")", Check.INDEX, x, () -> x.wealthiest(i));
        }
        String before = Check.all(x);
        x.wealthiest(1);
        x.fairness(true);
        Check.is("the state", Check.all(x), before);
        Check.refuses("no actions", Check.STATE, x, () -> x.undo());
    }
}
