import java.math.BigInteger;

/** The boundary cases of the section SCRIPTS and of promises 31 and 32, each with the sentence that names it. */
public final class ScriptEdgeTest {
    private static final int OK = Check.NONE;

    public static void main(String[] args) {
        numbersOfCommands();
        digitsOfAScript();
        negativeScripts();
        leadingZeros();
        highestGroupFirst();
        resultIsTheFirstThatFails();
        otherGroupsFail();
        bidCommands();
        askCommands();
        shortAskCommands();
        ordersIntoAFullBook();
        ordersOfASuspendedTenant();
        tickCommands();
        messageCommands();
        cashConditions();
        creditConditions();
        priceConditions();
        scriptsRunOnACopy();
        numbersOfRounds();
        seedsAtTheEnds();
        refusedRoundsGoOn();
        simulationsRunOnACopy();
        Check.end();
    }

    /** Tenant 0 with 40 credits and 600 in cash, tenant 1 with 30 and 345. */
    private static CreditExchange exchange() {
        return Check.of("L050010305t040000600t030000345");
    }

    private static void result(CreditExchange x, int n, long script, int due) {
        Check.is("runScript(" + n + ", " + script + ")", x.runScript(n, script), due);
    }

    private static void fresh(int n, long script, int due) {
        result(exchange(), n, script, due);
    }

    /** "n: number of commands, 1 to 3", "IllegalArgumentException if n is out of range" */
    private static void numbersOfCommands() {
        fresh(1, 400001L, OK);
        fresh(2, 400001400001L, OK);
        fresh(3, 400001400001400001L, OK);
        CreditExchange x = exchange();
        for (int n : new int[] {0, 4, -1, Integer.MIN_VALUE, Integer.MAX_VALUE}) {
            Check.refuses("n = " + n, Check.ARGUMENT, x, () -> x.runScript(n, 400001L));
            Check.refuses("n = " + n + ", script 0", Check.ARGUMENT, x, () -> x.runScript(n, 0L));
        }
    }

    /** "a number of at most 6 * n digits", "or has more than 6 * n digits" */
    private static void digitsOfAScript() {
        long end = 1;
        for (int n = 1; n <= 3; n++) {
            int commands = n;
            end *= 1000000;
            long outside = end;
            fresh(n, outside - 1, 0);
            CreditExchange x = exchange();
            Check.refuses("the first number with more digits", Check.ARGUMENT, x, () -> x.runScript(commands, outside));
            Check.refuses("the greatest long", Check.ARGUMENT, x, () -> x.runScript(commands, Long.MAX_VALUE));
        }
        CreditExchange x = exchange();
        Check.refuses("two groups for one command", Check.ARGUMENT, x, () -> x.runScript(1, 400001400001L));
        Check.refuses("three groups for two", Check.ARGUMENT, x, () -> x.runScript(2, 400001400001400001L));
        Check.refuses("a script whose low bits look like a group", Check.ARGUMENT, x,
                () -> x.runScript(1, (1L << 32) + 400001L));
    }

    /** "(0 or more)", "if script is negative" */
    private static void negativeScripts() {
        for (int n = 1; n <= 3; n++) {
            int commands = n;
            fresh(n, 0L, 0);
            CreditExchange x = exchange();
            for (long script : new long[] {-1, -400001L, Long.MIN_VALUE, Long.MIN_VALUE + 1}) {
                Check.refuses("a script of " + script, Check.ARGUMENT, x, () -> x.runScript(commands, script));
            }
        }
    }

    /** "the first command is the highest group of the number": groups of zeros in front fail */
    private static void leadingZeros() {
        fresh(2, 400001L, 0);
        fresh(3, 400001L, 0);
        fresh(3, 400001400001L, 0);
        fresh(1, 99999L, 0);
        fresh(2, 99999400001L, 0);
    }

    /** "the first command is the highest group of the number" */
    private static void highestGroupFirst() {
        // a bid for all cash, then a question whether cash is left; and the other way round
        fresh(2, 106010600001L, 1);
        fresh(2, 600001106010L, OK);
        fresh(3, 600600106010600000L, OK);
        fresh(3, 106010600000600001L, 2);
    }

    /** "the index, from 0, of the first command that fails, or NONE if all succeed" */
    private static void resultIsTheFirstThatFails() {
        fresh(3, 400000400000400000L, 0);
        fresh(3, 400001400000400000L, 1);
        fresh(3, 400001400001400000L, 2);
        fresh(3, 400001400001400001L, OK);
        fresh(3, 400001400000400001L, 1);
        fresh(3, 400000400001400001L, 0);
    }

    /** "Any other group fails." */
    private static void otherGroupsFail() {
        fresh(1, 0L, 0);
        fresh(1, 1L, 0);
        fresh(1, 50001L, 0);
        fresh(1, 99999L, 0);
        fresh(1, 900000L, 0);
        fresh(1, 900001L, 0);
        fresh(1, 999999L, 0);
        // the digits that the document writes as 0
        fresh(1, 400101L, 0);
        fresh(1, 401001L, 0);
        fresh(1, 410001L, 0);
        fresh(1, 500101L, 0);
        fresh(1, 501001L, 0);
    }

    /** "1 t x x y y: tenant t bids the price xx for the quantity yy." */
    private static void bidCommands() {
        fresh(1, 100101L, OK);
        fresh(1, 100001L, 0);
        fresh(1, 100100L, 0);
        fresh(1, 100199L, OK);
        fresh(1, 109901L, OK);
        fresh(1, 109906L, OK);
        fresh(1, 109907L, 0);
        fresh(1, 106010L, OK);
        fresh(1, 106110L, 0);
        fresh(1, 110101L, OK);
        fresh(1, 120101L, 0);
        fresh(1, 190101L, 0);
    }

    /** "2 t x x y y: tenant t asks." */
    private static void askCommands() {
        fresh(1, 200101L, OK);
        fresh(1, 200001L, 0);
        fresh(1, 200100L, 0);
        fresh(1, 209901L, OK);
        fresh(1, 200140L, OK);
        fresh(1, 200141L, 0);
        fresh(1, 210130L, OK);
        fresh(1, 210131L, 0);
        fresh(1, 220101L, 0);
        fresh(1, 290101L, 0);
    }

    /** "3 t x x y y: tenant t asks short." */
    private static void shortAskCommands() {
        fresh(1, 300101L, OK);
        fresh(1, 300001L, 0);
        fresh(1, 300100L, 0);
        fresh(1, 309999L, OK);
        fresh(2, 309998309901L, OK);
        fresh(2, 309998309902L, 1);
        fresh(1, 310199L, OK);
        fresh(1, 320101L, 0);
        fresh(1, 390101L, 0);
    }

    /** "The commands 1 to 5 fail if the method with this effect would throw an exception.": a full book */
    private static void ordersIntoAFullBook() {
        CreditExchange x = exchange();
        for (int k = 0; k < 10; k++) {
            x.askShort(0, 99, 1);
        }
        for (int kind = 1; kind <= 3; kind++) {
            long group = kind * 100000L + 10101L;
            long two = group * 1000000 + group;
            result(x, 2, two, OK);
            result(x, 3, two * 1000000 + group, 2);
        }
    }

    /** "The commands 1 to 5 fail if the method with this effect would throw an exception.": a suspension */
    private static void ordersOfASuspendedTenant() {
        CreditExchange x = Check.suspended();
        result(x, 1, 100101L, 0);
        result(x, 1, 300101L, 0);
        result(x, 2, 400001100101L, 1);
        result(x, 2, 400002100101L, OK);
        result(x, 2, 400001200101L, 1);
        result(x, 2, 400002200101L, OK);
        result(x, 1, 500001L, OK);
    }

    /** "4 0 0 0 y y: yy ticks, 1 to 50." */
    private static void tickCommands() {
        fresh(1, 400000L, 0);
        fresh(1, 400001L, OK);
        fresh(1, 400050L, OK);
        fresh(1, 400051L, 0);
        fresh(1, 400099L, 0);
        // as many ticks as are told: the bucket fills by one in each
        CreditExchange x = Check.of("L050200305t099010000");
        x.ask(0, 99, 99);
        result(x, 2, 400049700049L, OK);
        result(x, 2, 400049700050L, 1);
        result(x, 2, 400050700050L, OK);
        result(x, 3, 400050400049700099L, OK);
        result(x, 3, 400050400048700099L, 2);
    }

    /** "5 t 0 0 y y: a message of the size yy comes into the queue of tenant t." */
    private static void messageCommands() {
        fresh(1, 500001L, OK);
        fresh(1, 500000L, 0);
        fresh(1, 510099L, OK);
        fresh(1, 520001L, 0);
        fresh(1, 590001L, 0);
        fresh(3, 500040400001700000L, OK);
        fresh(3, 500040400001700001L, 2);
        fresh(3, 500041400001700040L, OK);
        CreditExchange x = exchange();
        for (int k = 0; k < 6; k++) {
            x.push(1, 50);
        }
        result(x, 2, 510001510001L, OK);
        result(x, 3, 510001510001510001L, 2);
        result(x, 3, 510001510001500001L, OK);
    }

    /** "6 t x x y y: succeeds if the cash of tenant t is at least xxyy." */
    private static void cashConditions() {
        fresh(1, 600000L, OK);
        fresh(1, 600599L, OK);
        fresh(1, 600600L, OK);
        fresh(1, 600601L, 0);
        fresh(1, 610345L, OK);
        fresh(1, 610346L, 0);
        fresh(1, 620000L, 0);
        fresh(1, 690000L, 0);
        int[] cash = {9998, 9999};
        for (int k = 0; k < 2; k++) {
            result(Check.of("L050010305t04000" + cash[k]), 1, 609999L, k == 0 ? 0 : OK);
        }
        CreditExchange x = Check.of("L050010305t040009999");
        x.deposit(0, 9999);
        result(x, 1, 609999L, OK);
        CreditExchange poor = new CreditExchange();
        result(poor, 1, 600000L, OK);
        result(poor, 1, 600001L, 0);
    }

    /** "7 t x x y y: succeeds if the credits of tenant t are at least xxyy." */
    private static void creditConditions() {
        fresh(1, 700000L, OK);
        fresh(1, 700039L, OK);
        fresh(1, 700040L, OK);
        fresh(1, 700041L, 0);
        fresh(1, 710030L, OK);
        fresh(1, 710031L, 0);
        fresh(1, 720000L, 0);
        fresh(1, 709999L, 0);
        // stock and level together
        CreditExchange x = Check.of("L050200305t999990000");
        x.ask(0, 9, 99);
        x.tick(1);
        x.withdraw(0);
        result(x, 1, 701098L, OK);
        result(x, 1, 701099L, 0);
    }

    private static CreditExchange tradedAt(int price) {
        CreditExchange x = Check.of("L050010305t040000600");
        x.ask(0, price, 1);
        x.bid(0, price, 1);
        x.tick(1);
        return x;
    }

    /** "8 0 0 0 y y: succeeds if the price of the last auction with a volume greater than 0 is yy." */
    private static void priceConditions() {
        for (int price = 0; price <= 99; price++) {
            fresh(1, 800000L + price, 0);
        }
        for (int price : new int[] {1, 2, 9, 50, 98, 99}) {
            CreditExchange x = tradedAt(price);
            result(x, 1, 800000L + price, OK);
            result(x, 1, 800000L + price - 1, 0);
            if (price < 99) {
                result(x, 1, 800000L + price + 1, 0);
            }
            result(x, 1, 800100L + price, 0);
            result(x, 1, 801000L + price, 0);
            result(x, 1, 810000L + price, 0);
            result(x, 2, 400050800000L + price, OK);
        }
    }

    /** "The commands run on a copy of the state." */
    private static void scriptsRunOnACopy() {
        CreditExchange x = exchange();
        x.deposit(0, 1);
        CreditExchange y = exchange();
        y.deposit(0, 1);
        result(x, 3, 101010500009400050L, OK);
        result(x, 3, 101010500009400051L, 2);
        Check.is("all that is seen", Check.seen(x), Check.seen(y));
        Check.is("all behind it", Check.behind(x), Check.behind(y));
    }

    /** "m: number of rounds, 1 to 60", "IllegalArgumentException if m is out of range" */
    private static void numbersOfRounds() {
        CreditExchange x = Check.of("L001200305t099010000" + "m001".repeat(8));
        Check.is("one round", x.simulate(0, 1), 1);
        Check.is("two rounds", x.simulate(0, 2), 2);
        Check.is("at least the eight messages that wait", Math.min(8, x.simulate(0, 60)), 8);
        for (int m : new int[] {0, 61, -1, Integer.MIN_VALUE, Integer.MAX_VALUE}) {
            Check.refuses("simulate(0, " + m + ")", Check.ARGUMENT, x, () -> x.simulate(0, m));
            Check.refuses("the smallest seed, " + m, Check.ARGUMENT, x, () -> x.simulate(Long.MIN_VALUE, m));
        }
    }

    /** The rounds as calls of the face, and x as a number modulo 2 to the power of 64. */
    private static int byHand(CreditExchange x, long seed, int m) {
        BigInteger modulus = BigInteger.ONE.shiftLeft(64);
        BigInteger factor = new BigInteger("6364136223846793005");
        BigInteger more = new BigInteger("1442695040888963407");
        BigInteger number = BigInteger.valueOf(seed).mod(modulus);
        int bytes = 0;
        for (int round = 0; round < m; round++) {
            number = number.multiply(factor).add(more).mod(modulus);
            int r = number.shiftRight(33).intValueExact();
            act(x, r % x.about(0), 1 + r / 8 % 99, 1 + r / 1024 % 20, r / 65536 % 4);
            bytes += x.tick(1);
        }
        return bytes;
    }

    private static void act(CreditExchange x, int t, int p, int q, int kind) {
        try {
            if (kind == 0) {
                x.bid(t, p, q);
            } else if (kind == 1) {
                x.ask(t, p, q);
            } else if (kind == 2) {
                x.askShort(t, p, q);
            } else {
                x.push(t, q);
            }
        } catch (IllegalStateException e) {
            // "nothing happens if the method with this effect would throw an exception"
        }
    }

    /** "seed: any long", "(with long overflow)" */
    private static void seedsAtTheEnds() {
        long[] seeds = {0, 1, -1, Long.MAX_VALUE, Long.MAX_VALUE - 1, Long.MIN_VALUE, Long.MIN_VALUE + 1,
            1L << 32, -1L << 32, Integer.MAX_VALUE, Integer.MIN_VALUE};
        for (int count = 1; count <= 6; count++) {
            for (long seed : seeds) {
                // few credits, so that it depends on the orders what can be sent
                String text = "L030020405" + "t015010600".repeat(count);
                for (int m : new int[] {1, 2, 59, 60}) {
                    Check.is("simulate(" + seed + ", " + m + ") with " + count + " tenants",
                            Check.of(text).simulate(seed, m), byHand(Check.of(text), seed, m));
                }
            }
        }
    }

    private static CreditExchange full() {
        CreditExchange x = Check.of("L001200305t010000000");
        for (int k = 0; k < 12; k++) {
            x.askShort(0, 99, 1);
        }
        for (int k = 0; k < 8; k++) {
            x.push(0, 2);
        }
        return x;
    }

    /** "nothing happens if the method with this effect would throw an exception. Then there is a tick." */
    private static void refusedRoundsGoOn() {
        for (long seed = 0; seed < 20; seed++) {
            Check.is("a full book and a full queue", full().simulate(seed, 60), 0);
            CreditExchange x = full();
            x.setWidth(3);
            CreditExchange y = full();
            y.setWidth(3);
            Check.is("seed " + seed, x.simulate(seed, 60), byHand(y, seed, 60));
        }
    }

    /** "Simulates m rounds on a copy of the state." */
    private static void simulationsRunOnACopy() {
        CreditExchange x = full();
        CreditExchange y = full();
        x.simulate(7, 60);
        x.simulate(Long.MAX_VALUE, 1);
        Check.is("all that is seen", Check.seen(x), Check.seen(y));
        Check.is("all behind it", Check.behind(x), Check.behind(y));
    }
}
