/** The boundary cases of promises 26 to 30, each with the sentence that names it. */
public final class QuestionEdgeTest {
    public static void main(String[] args) {
        noTicksAhead();
        ticksAheadAtTheEnds();
        aheadOutOfRange();
        aheadOfAllNumbers();
        noSuchMessage();
        sentInTheFirstTick();
        sentInTheLastTick();
        sentAfterOutOfRange();
        sentAfterASuspension();
        unusedAtTheEnds();
        unusedOutOfRange();
        nobodyHasSent();
        oneTenantHasSent();
        oneOfManyHasSent();
        allHaveSentTheSame();
        fairnessInLowestTerms();
        equalWealth();
        wealthBeforeAnyAuction();
        wealthBelowZero();
        wealthByOne();
        ranksOutOfRange();
        questionsChangeNothing();
        Check.end();
    }

    /** "n: number of ticks, 0 to 99": 0 tells of now */
    private static void noTicksAhead() {
        CreditExchange x = Check.of("L050010205t040050600t030020345m110");
        x.askShort(0, 5, 3);
        x.bid(1, 5, 3);
        x.ask(0, 90, 7);
        x.tick(1);
        for (int t = 0; t < 2; t++) {
            for (int what = 0; what <= 11; what++) {
                Check.is("ahead(0, " + t + ", " + what + ")", x.ahead(0, t, what), x.tenant(t, what));
            }
        }
    }

    /** "n: number of ticks, 0 to 99": 1, 50, 51 and 99 */
    private static void ticksAheadAtTheEnds() {
        CreditExchange x = Check.of("L050200205t999010000");
        x.ask(0, 90, 99);
        int[][] rows = {{0, 900}, {1, 901}, {50, 950}, {51, 951}, {98, 998}, {99, 999}};
        for (int[] row : rows) {
            Check.is("ahead(" + row[0] + ", 0, 2)", x.ahead(row[0], 0, 2), row[1]);
        }
        Check.is("the time is as it was", x.about(5), 0);
    }

    /** "IndexOutOfBoundsException if there is no such tenant", "IllegalArgumentException if n or what is out of range" */
    private static void aheadOutOfRange() {
        CreditExchange x = Check.of("L050200205t999010000");
        for (int n : new int[] {-1, 100, Integer.MIN_VALUE, Integer.MAX_VALUE}) {
            Check.refuses("ahead(" + n + ", 0, 0)", Check.ARGUMENT, x, () -> x.ahead(n, 0, 0));
            Check.refuses("no such tenant comes first", Check.INDEX, x, () -> x.ahead(n, 1, 0));
        }
        for (int what : new int[] {-1, 12, Integer.MIN_VALUE, Integer.MAX_VALUE}) {
            Check.refuses("ahead(0, 0, " + what + ")", Check.ARGUMENT, x, () -> x.ahead(0, 0, what));
            Check.refuses("no such tenant comes first", Check.INDEX, x, () -> x.ahead(0, 1, what));
        }
        for (int t : new int[] {-1, 1, Integer.MIN_VALUE, Integer.MAX_VALUE}) {
            Check.refuses("ahead(0, " + t + ", 0)", Check.INDEX, x, () -> x.ahead(0, t, 0));
        }
    }

    /** "what: 0 to 11, as for tenant": with debts and a suspension to come */
    private static void aheadOfAllNumbers() {
        for (int n = 1; n <= 8; n++) {
            CreditExchange x = suspendedAtThree();
            CreditExchange y = suspendedAtThree();
            y.tick(n);
            for (int t = 0; t < 2; t++) {
                for (int what = 0; what <= 11; what++) {
                    Check.is("ahead(" + n + ", " + t + ", " + what + ")", x.ahead(n, t, what), y.tenant(t, what));
                }
            }
        }
        Check.is("the last tick of the suspension", suspendedAtThree().ahead(6, 0, 11), 7);
        Check.is("its end", suspendedAtThree().ahead(7, 0, 11), Check.NONE);
    }

    /** Sells 5 short at time 1, due at 3; it has one credit then and cannot pay: suspended until 7. */
    private static CreditExchange suspendedAtThree() {
        CreditExchange x = Check.of("L050010299t001010000t001000900m001m001m001m001m001");
        x.askShort(0, 1, 5);
        x.bid(1, 1, 5);
        return x;
    }

    /** "NONE if there is no such message" */
    private static void noSuchMessage() {
        CreditExchange x = Check.of("L050200205t099010000t099010000m009m009");
        Check.is("the last one", x.sentAfter(0, 1), 1);
        for (int i = 2; i <= 7; i++) {
            Check.is("behind the last one", x.sentAfter(0, i), Check.NONE);
        }
        for (int i = 0; i <= 7; i++) {
            Check.is("an empty queue", x.sentAfter(1, i), Check.NONE);
        }
    }

    /** "the number of the tick, 1 for the next one": the width keeps the others waiting */
    private static void sentInTheFirstTick() {
        CreditExchange x = Check.of("L009200205t099010000" + "m009".repeat(8));
        for (int i = 0; i <= 7; i++) {
            Check.is("message " + i, x.sentAfter(0, i), 1 + i);
        }
        x.tick(50);
        Check.is("all are sent", x.sentAfter(0, 0), Check.NONE);
    }

    /** "1 to 99, in which the message is sent; NONE .. if it is not sent within 99 ticks" */
    private static void sentInTheLastTick() {
        // an empty bucket with the rate 1: a message of 97 is sent in tick 97, and so on
        for (int size = 97; size <= 99; size++) {
            CreditExchange x = Check.of("L099200205t099010000");
            x.ask(0, 99, 99);
            x.push(0, size);
            Check.is("a message of " + size, x.sentAfter(0, 0), size);
        }
        CreditExchange x = Check.of("L099200205t099010000");
        x.ask(0, 99, 99);
        x.push(0, 98);
        x.push(0, 1);
        x.push(0, 1);
        Check.is("the second one in tick 99", x.sentAfter(0, 1), 99);
        Check.is("the third one in tick 100", x.sentAfter(0, 2), Check.NONE);
        x.tick(1);
        Check.is("the third one a tick later", x.sentAfter(0, 2), 99);
    }

    /** "i: place in the queue, 0 to 7", "IllegalArgumentException if i is out of range" */
    private static void sentAfterOutOfRange() {
        CreditExchange x = Check.of("L050200205t099010000" + "m009".repeat(8));
        Check.is("place 0", x.sentAfter(0, 0), 1);
        Check.is("place 7: five of 9 fit into a tick", x.sentAfter(0, 7), 2);
        for (int i : new int[] {-1, 8, Integer.MIN_VALUE, Integer.MAX_VALUE}) {
            Check.refuses("sentAfter(0, " + i + ")", Check.ARGUMENT, x, () -> x.sentAfter(0, i));
            Check.refuses("no such tenant comes first", Check.INDEX, x, () -> x.sentAfter(1, i));
            Check.refuses("sentAfter(" + i + ", 0)", Check.INDEX, x, () -> x.sentAfter(i, 0));
        }
    }

    /** "if there are ticks and no other actions": a suspension keeps a message waiting */
    private static void sentAfterASuspension() {
        CreditExchange x = suspendedAtThree();
        int[] dues = {1, 2, 3, 7, 8};
        for (int i = 0; i < 5; i++) {
            Check.is("message " + i, x.sentAfter(0, i), dues[i]);
        }
    }

    /** "n: number of ticks, 1 to 99", "the sum, over these ticks, of the width minus the bytes that are sent" */
    private static void unusedAtTheEnds() {
        CreditExchange x = Check.of("L999200205t099010000m009");
        Check.is("one tick", x.unused(1), 990);
        Check.is("two ticks", x.unused(2), 990 + 999);
        Check.is("99 ticks", x.unused(99), 990 + 98 * 999);
        CreditExchange y = Check.of("L009200205t099000000m009m009m008");
        Check.is("all is used", y.unused(1), 0);
        Check.is("all is used twice", y.unused(2), 0);
        Check.is("one is not used", y.unused(3), 1);
        Check.is("nothing more is sent", y.unused(4), 10);
        Check.is("a new object", new CreditExchange().unused(99), 99);
    }

    /** "IllegalArgumentException if n is out of range" */
    private static void unusedOutOfRange() {
        CreditExchange x = Check.of("L999200205t099010000m009");
        for (int n : new int[] {0, 100, -1, Integer.MIN_VALUE, Integer.MAX_VALUE}) {
            Check.refuses("unused(" + n + ")", Check.ARGUMENT, x, () -> x.unused(n));
        }
    }

    private static void fair(String what, CreditExchange x, long upper, long lower) {
        Check.is(what + ": numerator", x.fairness(true), upper);
        Check.is(what + ": denominator", x.fairness(false), lower);
    }

    /** "1 if nobody has sent anything" */
    private static void nobodyHasSent() {
        fair("a new object", new CreditExchange(), 1, 1);
        CreditExchange x = Check.of("L999200205" + "t099010000".repeat(6) + "m009");
        fair("six tenants", x, 1, 1);
        x.tick(1);
        fair("one has sent", x, 1, 6);
        x.undo();
        fair("undone", x, 1, 1);
    }

    /** "divided by (the number of tenants times the sum of the squares of all x)": one tenant */
    private static void oneTenantHasSent() {
        CreditExchange x = Check.of("L999200205t099010000m001");
        x.tick(1);
        fair("one byte", x, 1, 1);
        x.push(0, 99);
        x.tick(1);
        fair("100 bytes", x, 1, 1);
    }

    /** "the square of the sum of all x, divided by ..": one of n tenants has sent all */
    private static void oneOfManyHasSent() {
        for (int count = 2; count <= 6; count++) {
            CreditExchange x = Check.of("L999200205" + "t099010000".repeat(count));
            x.push(count - 1, 99);
            x.tick(1);
            fair(count + " tenants", x, 1, count);
        }
    }

    /** "the square of the sum of all x, divided by ..": all have sent the same */
    private static void allHaveSentTheSame() {
        for (int count = 2; count <= 6; count++) {
            CreditExchange x = Check.of("L999200205" + "t099010000".repeat(count));
            for (int t = 0; t < count; t++) {
                x.push(t, 99);
            }
            x.tick(1);
            fair(count + " tenants", x, 1, 1);
        }
    }

    /** "in lowest terms" */
    private static void fairnessInLowestTerms() {
        CreditExchange x = Check.of("L999200205t099010000t099010000m003m101");
        x.tick(1);
        // 16 / (2 * 10)
        fair("3 and 1", x, 4, 5);
        x.push(1, 1);
        x.tick(1);
        // 25 / (2 * 13)
        fair("3 and 2", x, 25, 26);
    }

    private static void ranked(String what, CreditExchange x, int... dues) {
        for (int i = 0; i < dues.length; i++) {
            Check.is(what + ": wealthiest(" + i + ")", x.wealthiest(i), dues[i]);
        }
    }

    /** "and by number where it is equal" */
    private static void equalWealth() {
        CreditExchange x = Check.of("L999200205" + "t099010050".repeat(6));
        ranked("all equal", x, 0, 1, 2, 3, 4, 5);
        x.deposit(5, 1);
        ranked("the last one", x, 5, 0, 1, 2, 3, 4);
        x.deposit(2, 1);
        ranked("two", x, 2, 5, 0, 1, 3, 4);
    }

    /** "the price of the last auction with a volume greater than 0 (0 if there was none)" */
    private static void wealthBeforeAnyAuction() {
        CreditExchange x = Check.of("L999010205t001000050t999000049");
        x.tick(1);
        ranked("credits count nothing", x, 0, 1);
        x.ask(1, 1, 1);
        x.bid(0, 1, 1);
        x.tick(1);
        // 0: 49 + 1 + 1; 1: 50 + 998
        ranked("credits count at a price of 1", x, 1, 0);
        ranked("nor do they count less", Check.of("L999010205t999000050t001000050"), 0, 1);
    }

    /** "minus its debts": the wealth may be less than 0 */
    private static void wealthBelowZero() {
        CreditExchange x = Check.of("L999010500t001000000t001000000t001000099");
        x.askShort(0, 1, 99);
        x.bid(2, 1, 99);
        x.tick(1);
        // 0: 99 + 1 * (1 - 99) = 1; 1: 0 + 1 = 1; 2: 0 + 100
        ranked("equal at a price of 1", x, 2, 0, 1);
        x.bid(0, 99, 1);
        x.ask(1, 99, 1);
        x.tick(1);
        // 0: 0 + 99 * (2 - 99) < 0; 1: 99 + 0; 2: 99 * 100
        ranked("at a price of 99", x, 2, 1, 0);
    }

    /** "cash, plus its cash that is set aside, plus .. (its credits plus its credits that are set aside ..)" */
    private static void wealthByOne() {
        for (int more = 0; more <= 1; more++) {
            CreditExchange x = Check.of("L999010500t010000100t009000105");
            x.ask(0, 10, 1);
            x.bid(1, 10, 1);
            x.tick(1);
            // 0: 110 + 10 * 9 = 200; 1: 95 + 10 * 10 = 195
            x.deposit(1, 5 + more);
            x.ask(1, 50, 10);
            x.bid(0, 1, 99);
            x.askShort(0, 50, 9);
            ranked("more by " + more, x, more == 0 ? 0 : 1, more == 0 ? 1 : 0);
        }
    }

    /** "IndexOutOfBoundsException if there are not so many tenants, or i is negative" */
    private static void ranksOutOfRange() {
        for (int count = 1; count <= 6; count++) {
            CreditExchange x = Check.of("L999200205" + "t099010050".repeat(count));
            Check.is("the last rank of " + count, x.wealthiest(count - 1), count - 1);
            for (int i : new int[] {-1, count, 6, Integer.MIN_VALUE, Integer.MAX_VALUE}) {
                Check.refuses("wealthiest(" + i + ") of " + count, Check.INDEX, x, () -> x.wealthiest(i));
            }
        }
    }

    /** "they change nothing" */
    private static void questionsChangeNothing() {
        CreditExchange x = suspendedAtThree();
        CreditExchange y = suspendedAtThree();
        String before = Check.all(x);
        Check.is("the questions", Check.seen(x), Check.seen(x));
        Check.is("the state", Check.all(x), before);
        Check.is("what is behind it", Check.behind(x), Check.behind(y));
    }
}
