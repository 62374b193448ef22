/** Promises 31 and 32: runScript, simulate. */
public final class ScriptTest {
    public static void main(String[] args) {
        refusesScripts();
        groups();
        orderCommands();
        tickCommands();
        messageCommands();
        conditions();
        runsOnACopy();
        refusesSimulations();
        simulates();
        simulatesByHand();
        simulatesOneTenant();
        Check.end();
    }

    private static CreditExchange exchange() {
        return Check.of("L050010305t040000600t030020345m110");
    }

    private static void result(CreditExchange x, int n, long script, int due) {
        String before = Check.all(x);
        Check.is("runScript(" + n + ", " + script + ")", x.runScript(n, script), due);
        Check.is("runScript changes nothing", Check.all(x), before);
    }

    private static void refusesScripts() {
        CreditExchange x = exchange();
        for (int n : new int[] {0, -1, 4, Integer.MIN_VALUE, Integer.MAX_VALUE}) {
            Check.refuses("runScript(" + n + ", 1)", Check.ARGUMENT, x, () -> x.runScript(n, 1));
            Check.refuses("runScript(" + n + ", 0)", Check.ARGUMENT, x, () -> x.runScript(n, 0));
        }
        for (int n = 1; n <= 3; n++) {
            int commands = n;
            Check.refuses("a negative script", Check.ARGUMENT, x, () -> x.runScript(commands, -1));
            Check.refuses("the smallest long", Check.ARGUMENT, x, () -> x.runScript(commands, Long.MIN_VALUE));
            Check.refuses("the greatest long", Check.ARGUMENT, x, () -> x.runScript(commands, Long.MAX_VALUE));
        }
        Check.refuses("7 digits", Check.ARGUMENT, x, () -> x.runScript(1, 1000000L));
        Check.refuses("13 digits", Check.ARGUMENT, x, () -> x.runScript(2, 1000000000000L));
        Check.refuses("19 digits", Check.ARGUMENT, x, () -> x.runScript(3, 1000000000000000000L));
        result(x, 1, 999999L, 0);
        result(x, 2, 999999999999L, 0);
        result(x, 3, 999999999999999999L, 0);
    }

    private static void groups() {
        CreditExchange x = exchange();
        result(x, 1, 0L, 0);
        result(x, 1, 12345L, 0);
        result(x, 1, 900000L, 0);
        result(x, 3, 400001L, 0);
        result(x, 2, 400001000000L, 1);
        result(x, 2, 400001400002L, -9);
        result(x, 3, 400001400002400000L, 2);
        result(x, 3, 400001400002400003L, -9);
        result(x, 3, 400001000000400003L, 1);
    }

    private static void orderCommands() {
        CreditExchange x = exchange();
        result(x, 1, 101510L, -9);
        result(x, 1, 106010L, -9);
        result(x, 1, 106110L, 0);
        result(x, 1, 100010L, 0);
        result(x, 1, 101000L, 0);
        result(x, 1, 121010L, 0);
        result(x, 1, 191010L, 0);
        result(x, 2, 106010100101L, 1);
        result(x, 1, 209940L, -9);
        result(x, 1, 209941L, 0);
        result(x, 2, 209940209901L, 1);
        result(x, 1, 200040L, 0);
        result(x, 1, 209900L, 0);
        result(x, 1, 229901L, 0);
        result(x, 1, 300199L, -9);
        result(x, 2, 300198300101L, -9);
        result(x, 2, 300198300102L, 1);
        result(x, 1, 320101L, 0);
        for (int k = 0; k < 11; k++) {
            x.askShort(0, 99, 1);
        }
        result(x, 1, 110101L, -9);
        result(x, 2, 110101110101L, 1);
        result(x, 2, 210101210101L, 1);
        result(x, 2, 310101310101L, 1);
    }

    private static void tickCommands() {
        CreditExchange x = exchange();
        result(x, 1, 400000L, 0);
        result(x, 1, 400001L, -9);
        result(x, 1, 400050L, -9);
        result(x, 1, 400051L, 0);
        result(x, 1, 400101L, 0);
        result(x, 1, 401001L, 0);
        result(x, 1, 410001L, 0);
    }

    private static void messageCommands() {
        CreditExchange x = exchange();
        result(x, 1, 500001L, -9);
        result(x, 1, 510099L, -9);
        result(x, 1, 500000L, 0);
        result(x, 1, 500101L, 0);
        result(x, 1, 501001L, 0);
        result(x, 1, 520001L, 0);
        result(x, 3, 500040400001700000L, -9);
        result(x, 3, 500040400001700001L, 2);
        for (int k = 0; k < 6; k++) {
            x.push(1, 50);
        }
        result(x, 1, 510001L, -9);
        result(x, 2, 510001510001L, 1);
        result(x, 2, 510001500001L, -9);
    }

    private static void conditions() {
        CreditExchange x = exchange();
        result(x, 1, 600600L, -9);
        result(x, 1, 600601L, 0);
        result(x, 1, 610345L, -9);
        result(x, 1, 610346L, 0);
        result(x, 1, 600000L, -9);
        result(x, 1, 620000L, 0);
        result(x, 1, 690000L, 0);
        result(x, 1, 700040L, -9);
        result(x, 1, 700041L, 0);
        result(x, 1, 710030L, -9);
        result(x, 1, 710130L, 0);
        result(x, 1, 720000L, 0);
        result(x, 2, 203010700031L, 1);
        result(x, 2, 203010700030L, -9);
        result(x, 1, 800000L, 0);
        result(x, 1, 800001L, 0);
        x.ask(0, 10, 20);
        x.bid(1, 15, 20);
        result(x, 1, 800012L, 0);
        result(x, 2, 400001800012L, -9);
        result(x, 2, 400001800013L, 1);
        result(x, 2, 400001710040L, -9);
        result(x, 2, 400001710041L, 1);
        result(x, 2, 400001600840L, -9);
        result(x, 2, 400001600841L, 1);
        x.tick(1);
        result(x, 1, 800012L, -9);
        result(x, 1, 810012L, 0);
        result(x, 1, 800112L, 0);
        result(x, 1, 801012L, 0);
        result(x, 3, 102005220005400001L, 1);
        CreditExchange y = Check.of("L050010305t987000000");
        result(y, 1, 700987L, -9);
        result(y, 1, 700988L, 0);
        result(y, 1, 701087L, 0);
    }

    private static void runsOnACopy() {
        CreditExchange x = exchange();
        x.deposit(0, 1);
        String before = Check.all(x);
        Check.is("three commands", x.runScript(3, 101010400050500001L), -9);
        Check.is("nothing has changed", Check.all(x), before);
        Check.is("no action", x.undo(), 0);
    }

    private static void refusesSimulations() {
        CreditExchange x = exchange();
        for (int m : new int[] {0, -1, 61, Integer.MIN_VALUE, Integer.MAX_VALUE}) {
            Check.refuses("simulate(1, " + m + ")", Check.ARGUMENT, x, () -> x.simulate(1, m));
        }
    }

    private static void simulates() {
        CreditExchange x = exchange();
        x.deposit(0, 1);
        String before = Check.all(x);
        Check.is("the message that waits", x.simulate(0, 1), 10);
        x.ahead(5, 0, 0);
        Check.is("on a copy of the state of now", x.simulate(0, 1), 10);
        for (long seed : new long[] {0, 1, -1, Long.MIN_VALUE, Long.MAX_VALUE, 123456789}) {
            x.simulate(seed, 1);
            x.simulate(seed, 60);
        }
        Check.is("nothing has changed", Check.all(x), before);
        Check.is("no action", x.undo(), 0);
    }

    /** The same rounds with the calls of the face. */
    private static void simulatesByHand() {
        int allBytes = 0;
        for (long seed = -40; seed < 40; seed++) {
            CreditExchange x = exchange();
            int told = x.simulate(seed, 60);
            int bytes = 0;
            long number = seed;
            for (int round = 0; round < 60; round++) {
                number = number * 6364136223846793005L + 1442695040888963407L;
                int r = (int) (number >>> 33);
                bytes += round(x, r % 2, 1 + r / 8 % 99, 1 + r / 1024 % 20, r / 65536 % 4);
            }
            Check.is("simulate(" + seed + ", 60)", told, bytes);
            allBytes += bytes;
        }
        Check.that("messages were sent", allBytes > 80 * 10);
    }

    /** A new object sends a message of the size 1 alone. */
    private static void simulatesOneTenant() {
        int sent = 0;
        for (long seed = 0; seed < 400; seed++) {
            int r = (int) ((seed * 6364136223846793005L + 1442695040888963407L) >>> 33);
            boolean fits = r / 65536 % 4 == 3 && r / 1024 % 20 == 0;
            Check.is("simulate(" + seed + ", 1)", new CreditExchange().simulate(seed, 1), fits ? 1 : 0);
            sent += fits ? 1 : 0;
        }
        Check.that("some rounds send a message", sent > 0);
    }

    private static int round(CreditExchange x, int t, int p, int q, int kind) {
        try {
            switch (kind) {
                case 0:
                    x.bid(t, p, q);
                    break;
                case 1:
                    x.ask(t, p, q);
                    break;
                case 2:
                    x.askShort(t, p, q);
                    break;
                default:
                    x.push(t, q);
                    break;
            }
        } catch (IllegalStateException e) {
            // nothing happens then
        }
        return x.tick(1);
    }
}
