import java.util.concurrent.Callable;

/** Compares answers with those that are due, and ends a test with exit code 1 if one was wrong. */
final class Check {
    static final Class<?> INDEX = IndexOutOfBoundsException.class;
    static final Class<?> ARGUMENT = IllegalArgumentException.class;
    static final Class<?> STATE = IllegalStateException.class;
    static final int NONE = CreditExchange.NONE;

    private static int checks = 0;
    private static int wrong = 0;

    private Check() {
    }

    static void is(String what, long got, long want) {
        that(what + " answered " + got + ", due is " + want, got == want);
    }

    static void is(String what, String got, String want) {
        that(what + " answered " + got + ", due is " + want, got.equals(want));
    }

    static void that(String fault, boolean right) {
        checks++;
        if (!right) {
            wrong++;
            System.out.println(fault);
        }
    }

    /** The call must throw exactly this class, by a throw statement of CreditExchange, and change nothing. */
    static void refuses(String what, Class<?> kind, CreditExchange x, Callable<Number> call) {
        String before = x == null ? "" : all(x);
        try {
            Number got = call.call();
            that(what + " answered " + got + ", due is " + kind.getSimpleName(), false);
        } catch (Exception e) {
            that(what + " threw " + e + ", due is " + kind.getSimpleName(), e.getClass() == kind);
            that(what + ": thrown by the machine", isThrownByCode(e));
        }
        that(what + " changed the state", x == null || before.equals(all(x)));
    }

    static boolean isThrownByCode(Exception e) {
        StackTraceElement[] trace = e.getStackTrace();
        return trace.length > 0 && trace[0].getClassName().startsWith("CreditExchange");
    }

    /** A new object that has loaded a text. */
    static CreditExchange of(String text) {
        CreditExchange x = new CreditExchange();
        type(x, text);
        x.load();
        return x;
    }

    /** Tenant 0 sells 5 credits short at time 1, has but one at time 2, and cannot pay: suspended until 4. */
    static CreditExchange suspended() {
        CreditExchange x = of("L050010199t001010000t001000900");
        x.askShort(0, 1, 5);
        x.bid(1, 1, 5);
        x.tick(2);
        return x;
    }

    static void type(CreditExchange x, String text) {
        for (int i = 0; i < text.length(); i++) {
            x.append(text.charAt(i));
        }
    }

    /** All that the calls about the state tell. */
    static String all(CreditExchange x) {
        StringBuilder told = new StringBuilder();
        for (int what = 0; what <= 9; what++) {
            told.append(x.about(what)).append(what < 9 ? "," : "\n");
        }
        for (int t = 0; t < x.about(0); t++) {
            told.append("tenant ").append(tenant(x, t)).append(" queue ").append(queue(x, t)).append("\n");
        }
        told.append(book(x));
        return told.toString();
    }

    static String tenant(CreditExchange x, int t) {
        StringBuilder told = new StringBuilder();
        for (int what = 0; what <= 11; what++) {
            told.append(x.tenant(t, what)).append(what < 11 ? "," : "");
        }
        return told.toString();
    }

    static String queue(CreditExchange x, int t) {
        StringBuilder told = new StringBuilder();
        for (int i = 0; i < 8 && x.message(t, i) != NONE; i++) {
            told.append(i > 0 ? "," : "").append(x.message(t, i));
        }
        return told.toString();
    }

    /** The orders, each as tenant,kind,price,quantity,fill and a semicolon. */
    static String book(CreditExchange x) {
        StringBuilder told = new StringBuilder();
        for (int i = 0; i < x.about(8); i++) {
            for (int what = 0; what <= 4; what++) {
                told.append(x.order(i, what)).append(what < 4 ? "," : ";");
            }
        }
        return told.toString();
    }

    /** All that calls tell which change nothing. */
    static String seen(CreditExchange x) {
        long[] answers = {x.demand(40), x.supply(40), x.auction(0), x.auction(1), x.auction(2), x.auction(3),
            x.volumeIf(0, 0, 60, 9), x.priceFor(5), x.share(0, true), x.share(0, false), x.ahead(7, 0, 4),
            x.sentAfter(0, 0), x.unused(9), x.fairness(true), x.fairness(false), x.wealthiest(0),
            x.runScript(1, 400009L), x.simulate(5, 20), x.errorPosition()};
        return all(x) + java.util.Arrays.toString(answers);
    }

    /** What only calls tell that change the object: the remembered states, the slots and the text. */
    static String behind(CreditExchange x) {
        StringBuilder told = new StringBuilder();
        for (int left = canUndo(x); left != NONE; left = canUndo(x)) {
            told.append("undo ").append(left).append(" ").append(brief(x));
        }
        for (int slot = 0; slot <= 1; slot++) {
            int time = canRestore(x, slot);
            told.append("slot ").append(time).append(" ").append(time == NONE ? "" : brief(x));
        }
        told.append("text ").append(x.errorPosition()).append(" ");
        if (x.errorPosition() == NONE) {
            x.load();
            told.append(all(x));
        }
        return told.append(x.clearText()).toString();
    }

    private static String brief(CreditExchange x) {
        int last = x.about(0) - 1;
        return x.about(1) + "," + x.about(5) + "," + x.about(8) + "," + x.tenant(last, 1) + "," + x.tenant(0, 4) + ","
                + x.tenant(last, 4) + "," + x.tenant(0, 9) + "\n";
    }

    /** How many states are left after an undo; NONE if none is remembered. */
    static int canUndo(CreditExchange x) {
        try {
            return x.undo();
        } catch (IllegalStateException e) {
            return NONE;
        }
    }

    /** The time of the state in a slot; NONE if it is empty. */
    static int canRestore(CreditExchange x, int slot) {
        try {
            return x.restore(slot);
        } catch (IllegalStateException e) {
            return NONE;
        }
    }

    static void end() {
        System.out.println(checks + " checks, " + wrong + " wrong");
        if (wrong != 0) {
            System.exit(1);
        }
    }
}
