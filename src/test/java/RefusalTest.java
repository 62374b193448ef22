import java.util.List;
import java.util.function.Function;
import java.util.function.Supplier;

/**
 * The section EXCEPTIONS, for every call that can throw: with arguments inside and outside of each range, in
 * every combination, and in states in which the call is possible or not. Which exception is thrown, the one
 * that comes first if several apply; and that a call that throws changes nothing at all.
 */
public final class RefusalTest {
    private static final int LEAST = Integer.MIN_VALUE;
    private static final int MOST = Integer.MAX_VALUE;
    private static final int[] TWO_DIGITS = {LEAST, 0, 1, 99, 100, MOST};

    /** How to make an object, and what no call tells without a change to it. */
    private record Hidden(Supplier<CreditExchange> maker, boolean hasExchangeText, boolean isTextFull,
            boolean canUndo, boolean hasSlot0, boolean hasSlot1) {
    }

    private final String name;
    private final Hidden hidden;
    /** The object as it was made; no call of this test changes it. */
    private final CreditExchange now;
    private final String seen;
    private final String behind;
    private int refused = 0;
    private int answered = 0;

    private RefusalTest(String name, Hidden hidden) {
        this.name = name;
        this.hidden = hidden;
        now = hidden.maker().get();
        seen = Check.seen(hidden.maker().get());
        behind = Check.behind(hidden.maker().get());
    }

    public static void main(String[] args) {
        List<RefusalTest> tests = List.of(
                new RefusalTest("a new object", new Hidden(CreditExchange::new, false, false, false, false, false)),
                new RefusalTest("a busy one", new Hidden(RefusalTest::busy, false, false, true, true, false)),
                new RefusalTest("a full one", new Hidden(RefusalTest::full, true, true, true, true, true)),
                new RefusalTest("a suspended tenant", new Hidden(RefusalTest::suspended, true, false, false, false, true)));
        for (RefusalTest test : tests) {
            test.texts();
            test.numbers();
            test.orders();
            test.otherActions();
            test.questionsAboutAuctions();
            test.otherQuestions();
            test.scripts();
            test.slots();
            Check.that(test.name + ": calls of both sorts", test.refused > 0 && test.answered > 0);
        }
        Check.end();
    }

    /** Orders, a debt, messages, cash near the most; a text that is not one; 14 states and a slot. */
    private static CreditExchange busy() {
        CreditExchange x = Check.of("L050012005t040050600t099020345m110");
        x.askShort(0, 5, 30);
        x.bid(1, 9, 20);
        x.tick(3);
        x.save(0);
        x.ask(1, 60, 50);
        x.askShort(0, 70, 20);
        for (int k = 0; k < 9; k++) {
            x.deposit(1, 9999);
        }
        x.push(0, 99);
        x.bid(0, 2, 30);
        x.append('m');
        return x;
    }

    /** Twelve orders, a full queue, the most cash, 160 characters, 14 states and both slots. */
    private static CreditExchange full() {
        CreditExchange x = Check.of("L050200305" + "t060050600".repeat(5) + "m001m102m203m304m405".repeat(5));
        for (int k = 0; k < 10; k++) {
            x.deposit(0, k < 9 ? 9999 : 9408);
        }
        x.save(1);
        for (int k = 0; k < 12; k++) {
            x.askShort(k % 5, 40 + k, 1 + k);
        }
        x.save(0);
        for (int k = 0; k < 3; k++) {
            x.push(4, 60);
        }
        return x;
    }

    /** Tenant 0 is suspended; nothing is remembered, and slot 1 alone is filled. */
    private static CreditExchange suspended() {
        CreditExchange x = Check.of("L050010399t001010000t001000900");
        x.askShort(0, 1, 5);
        x.bid(1, 1, 5);
        x.tick(4);
        x.deposit(0, 9999);
        x.bid(1, 1, 7);
        x.save(1);
        x.restore(1);
        return x;
    }

    /** The first one of the three that applies; null if none does. */
    private static Class<?> first(boolean noIndex, boolean noArgument, boolean notNow) {
        return noIndex ? Check.INDEX : noArgument ? Check.ARGUMENT : notNow ? Check.STATE : null;
    }

    private static boolean isOut(int v, int least, int most) {
        return v < least || v > most;
    }

    private boolean isNoTenant(int t) {
        return isOut(t, 0, now.about(0) - 1);
    }

    private int[] tenants() {
        int count = now.about(0);
        return new int[] {LEAST, -1, 0, count - 1, count, 6, MOST};
    }

    /** Numbers about the ends of a range. */
    private static int[] about(int least, int most) {
        return new int[] {LEAST, -1, least - 1, least, most, most + 1, MOST};
    }

    private void due(Class<?> kind, Function<CreditExchange, Number> call, String what, long... arguments) {
        String told = name + ": " + what + java.util.Arrays.toString(arguments);
        CreditExchange x = hidden.maker().get();
        Exception thrown = thrown(x, call);
        Class<?> got = thrown == null ? null : thrown.getClass();
        Check.that(told + " throws " + got + ", due is " + kind, got == kind);
        if (kind == null || thrown == null) {
            answered++;
            return;
        }
        refused++;
        Check.that(told + ": thrown by the machine", Check.isThrownByCode(thrown));
        Check.that(told + " changed what is seen", Check.seen(x).equals(seen));
        CreditExchange y = hidden.maker().get();
        thrown(y, call);
        Check.that(told + " changed what is behind it", Check.behind(y).equals(behind));
    }

    private static Exception thrown(CreditExchange x, Function<CreditExchange, Number> call) {
        try {
            call.apply(x);
            return null;
        } catch (RuntimeException e) {
            return e;
        }
    }

    private void texts() {
        for (int c : about(0, 255)) {
            due(first(false, isOut(c, 0, 255), hidden.isTextFull()), x -> x.append(c), "append", c);
        }
        due(first(false, false, !hidden.hasExchangeText()), x -> x.load(), "load");
    }

    private void numbers() {
        for (int what : about(0, 9)) {
            due(first(false, isOut(what, 0, 9), false), x -> x.about(what), "about", what);
        }
        for (int t : tenants()) {
            for (int what : about(0, 11)) {
                due(first(isNoTenant(t), isOut(what, 0, 11), false), x -> x.tenant(t, what), "tenant", t, what);
            }
            for (int i : about(0, 7)) {
                due(first(isNoTenant(t), isOut(i, 0, 7), false), x -> x.message(t, i), "message", t, i);
            }
        }
        for (int i : about(0, now.about(8) - 1)) {
            boolean isNoOrder = isOut(i, 0, now.about(8) - 1);
            for (int what : about(0, 4)) {
                due(first(isNoOrder, isOut(what, 0, 4), false), x -> x.order(i, what), "order", i, what);
            }
            due(first(isNoOrder, false, false), x -> x.withdraw(i), "withdraw", i);
        }
    }

    private boolean isBookFullOrSuspended(int t) {
        return now.about(8) == 12 || now.tenant(t, 11) != Check.NONE;
    }

    private int owedAndAskedShort(int t) {
        int sum = now.tenant(t, 7);
        for (int i = 0; i < now.about(8); i++) {
            sum += now.order(i, 0) == t && now.order(i, 1) == 2 ? now.order(i, 3) : 0;
        }
        return sum;
    }

    private void orders() {
        for (int t : tenants()) {
            for (int p : TWO_DIGITS) {
                for (int q : TWO_DIGITS) {
                    boolean isWrong = isOut(p, 1, 99) || isOut(q, 1, 99);
                    boolean isLate = isNoTenant(t) || isWrong || isBookFullOrSuspended(t);
                    due(first(isNoTenant(t), isWrong, isLate || now.tenant(t, 4) < p * q),
                            x -> x.bid(t, p, q), "bid", t, p, q);
                    due(first(isNoTenant(t), isWrong, isLate || now.tenant(t, 2) + now.tenant(t, 3) < q),
                            x -> x.ask(t, p, q), "ask", t, p, q);
                    due(first(isNoTenant(t), isWrong, isLate || owedAndAskedShort(t) + q > 99),
                            x -> x.askShort(t, p, q), "askShort", t, p, q);
                }
            }
        }
    }

    private void otherActions() {
        for (int t : tenants()) {
            for (int size : TWO_DIGITS) {
                boolean isLate = !isNoTenant(t) && now.tenant(t, 9) == 8;
                due(first(isNoTenant(t), isOut(size, 1, 99), isLate), x -> x.push(t, size), "push", t, size);
            }
            for (int amount : about(1, 9999)) {
                boolean isLate = !isNoTenant(t) && now.tenant(t, 4) + (long) amount > 99999;
                due(first(isNoTenant(t), isOut(amount, 1, 9999), isLate), x -> x.deposit(t, amount),
                        "deposit", t, amount);
            }
            for (int v : about(0, 99)) {
                due(first(isNoTenant(t), isOut(v, 0, 99), false), x -> x.setRate(t, v), "setRate", t, v);
            }
        }
        for (int n : about(1, 50)) {
            due(first(false, isOut(n, 1, 50), false), x -> x.tick(n), "tick", n);
        }
        for (int v : about(1, 999)) {
            due(first(false, isOut(v, 1, 999), false), x -> x.setWidth(v), "setWidth", v);
        }
        due(first(false, false, !hidden.canUndo()), x -> x.undo(), "undo");
    }

    private void questionsAboutAuctions() {
        for (int v : TWO_DIGITS) {
            due(first(false, isOut(v, 1, 99), false), x -> x.demand(v), "demand", v);
            due(first(false, isOut(v, 1, 99), false), x -> x.supply(v), "supply", v);
            due(first(false, isOut(v, 1, 99), false), x -> x.priceFor(v), "priceFor", v);
        }
        for (int what : about(0, 3)) {
            due(first(false, isOut(what, 0, 3), false), x -> x.auction(what), "auction", what);
        }
        for (int t : tenants()) {
            due(first(isNoTenant(t), false, false), x -> x.share(t, true), "share", t, 1);
            due(first(isNoTenant(t), false, false), x -> x.share(t, false), "share", t, 0);
            for (int kind : about(0, 2)) {
                for (int p : TWO_DIGITS) {
                    for (int q : TWO_DIGITS) {
                        boolean isWrong = isOut(kind, 0, 2) || isOut(p, 1, 99) || isOut(q, 1, 99);
                        due(first(isNoTenant(t), isWrong, false), x -> x.volumeIf(t, kind, p, q),
                                "volumeIf", t, kind, p, q);
                    }
                }
            }
        }
    }

    private void otherQuestions() {
        for (int t : tenants()) {
            for (int n : about(0, 99)) {
                for (int what : about(0, 11)) {
                    due(first(isNoTenant(t), isOut(n, 0, 99) || isOut(what, 0, 11), false),
                            x -> x.ahead(n, t, what), "ahead", n, t, what);
                }
            }
            for (int i : about(0, 7)) {
                due(first(isNoTenant(t), isOut(i, 0, 7), false), x -> x.sentAfter(t, i), "sentAfter", t, i);
            }
            due(first(isNoTenant(t), false, false), x -> x.wealthiest(t), "wealthiest", t);
        }
        for (int n : about(1, 99)) {
            due(first(false, isOut(n, 1, 99), false), x -> x.unused(n), "unused", n);
        }
    }

    private void scripts() {
        long[] ends = {1000000L, 1000000000000L, 1000000000000000000L};
        for (int n : about(1, 3)) {
            for (long end : ends) {
                for (long script : new long[] {Long.MIN_VALUE, -1, 0, end - 1, end, Long.MAX_VALUE}) {
                    boolean isWrong = isOut(n, 1, 3) || script < 0 || script >= ends[n - 1];
                    due(first(false, isWrong, false), x -> x.runScript(n, script), "runScript", n, script);
                }
            }
        }
        for (int m : about(1, 60)) {
            for (long seed : new long[] {Long.MIN_VALUE, -1, 0, Long.MAX_VALUE}) {
                due(first(false, isOut(m, 1, 60), false), x -> x.simulate(seed, m), "simulate", seed, m);
            }
        }
    }

    private void slots() {
        for (int slot : about(0, 1)) {
            boolean isEmpty = slot == 0 && !hidden.hasSlot0() || slot == 1 && !hidden.hasSlot1();
            due(first(isOut(slot, 0, 1), false, false), x -> x.save(slot), "save", slot);
            due(first(isOut(slot, 0, 1), false, isEmpty), x -> x.restore(slot), "restore", slot);
        }
    }
}
