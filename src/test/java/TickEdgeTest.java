/** The boundary cases of the section TICKS and of promises 14 to 18, each with the sentence that names it. */
public final class TickEdgeTest {
    public static void main(String[] args) {
        sizesOfMessages();
        ninthMessage();
        amountsOfDeposits();
        mostCash();
        mostCashWithoutDeposit();
        numbersOfTicks();
        ratesInRange();
        widthsInRange();
        fillsToTheCapacity();
        fillsNobodySuspended();
        firstTenantOfARound();
        afterTheLastTenant();
        oneMessageInARound();
        sendsAllQueues();
        sendsUpToTheCredits();
        sendsFromStockAndBucket();
        sendsUpToTheWidth();
        waitsBehindTheFirstMessage();
        sendsNothingWhileSuspended();
        shortestInterval();
        longestInterval();
        auctionWithoutVolume();
        shortestTerm();
        longestTerm();
        dueNowNotBefore();
        smallestDebt();
        greatestDebt();
        creditsForADebt();
        ordersForADebt();
        ordersOfAFullBook();
        ordersStay();
        cashForThePenalty();
        greatestPenalty();
        noPenalty();
        suspendedForTwiceTheTerm();
        suspendedBefore();
        debtsDueAtOnce();
        debtsOfSeveralTenants();
        stepsOfATick();
        messagesBeforeDebts();
        Check.end();
    }

    /** "size: 1 to 99", "IllegalArgumentException if size is out of range" */
    private static void sizesOfMessages() {
        CreditExchange x = Check.of("L050200305t010000000");
        Check.is("push(0, 1)", x.push(0, 1), 1);
        Check.is("push(0, 99)", x.push(0, 99), 2);
        Check.is("the queue", Check.queue(x, 0), "1,99");
        for (int size : new int[] {0, 100, -1, Integer.MIN_VALUE, Integer.MAX_VALUE}) {
            Check.refuses("push(0, " + size + ")", Check.ARGUMENT, x, () -> x.push(0, size));
        }
        for (int t : new int[] {-1, 1, Integer.MIN_VALUE, Integer.MAX_VALUE}) {
            Check.refuses("push(" + t + ", 1)", Check.INDEX, x, () -> x.push(t, 1));
        }
    }

    /** "IllegalStateException if the queue has 8 messages" */
    private static void ninthMessage() {
        CreditExchange x = Check.of("L050200305t010000000t010000000" + "m009".repeat(7));
        Check.is("the eighth message", x.push(0, 10), 8);
        Check.refuses("the ninth message", Check.STATE, x, () -> x.push(0, 9));
        Check.is("another queue", x.push(1, 9), 1);
        x.tick(1);
        Check.is("a message was sent", x.tenant(0, 9), 7);
        Check.is("so there is room", x.push(0, 8), 8);
        Check.is("at the end", x.message(0, 7), 8);
    }

    /** "amount: 1 to 9999", "IllegalArgumentException if amount is out of range" */
    private static void amountsOfDeposits() {
        CreditExchange x = Check.of("L050200305t010000000");
        Check.is("deposit(0, 1)", x.deposit(0, 1), 1);
        Check.is("deposit(0, 9999)", x.deposit(0, 9999), 10000);
        for (int amount : new int[] {0, 10000, -1, Integer.MIN_VALUE, Integer.MAX_VALUE}) {
            Check.refuses("deposit(0, " + amount + ")", Check.ARGUMENT, x, () -> x.deposit(0, amount));
        }
        for (int t : new int[] {-1, 1, Integer.MIN_VALUE, Integer.MAX_VALUE}) {
            Check.refuses("deposit(" + t + ", 1)", Check.INDEX, x, () -> x.deposit(t, 1));
        }
    }

    /** An exchange whose tenant 0 has 90000 in cash. */
    private static CreditExchange rich() {
        CreditExchange x = Check.of("L050200305t099000009t010000000");
        for (int k = 0; k < 9; k++) {
            x.deposit(0, 9999);
        }
        return x;
    }

    /** "IllegalStateException if its cash would be greater than 99999" */
    private static void mostCash() {
        CreditExchange x = rich();
        Check.is("up to 99998", x.deposit(0, 9998), 99998);
        Check.refuses("up to 100000", Check.STATE, x, () -> x.deposit(0, 2));
        Check.is("up to 99999", x.deposit(0, 1), 99999);
        Check.refuses("one more", Check.STATE, x, () -> x.deposit(0, 1));
        Check.refuses("the greatest amount", Check.STATE, x, () -> x.deposit(0, 9999));
        Check.is("another tenant", x.deposit(1, 1), 1);
    }

    /** "if its cash would be greater than 99999": cash that is set aside does not count, and it may return */
    private static void mostCashWithoutDeposit() {
        CreditExchange x = rich();
        x.bid(0, 99, 1);
        Check.is("up to 99999", x.deposit(0, 9999), 99900);
        Check.is("as the 99 do not count", x.deposit(0, 99), 99999);
        x.withdraw(0);
        Check.is("the 99 return", x.tenant(0, 4), 100098);
        Check.refuses("then there is no room", Check.STATE, x, () -> x.deposit(0, 1));
    }

    /** "n: number of ticks, 1 to 50", "IllegalArgumentException if n is out of range" */
    private static void numbersOfTicks() {
        CreditExchange x = Check.of("L009200305t099010000m009m009");
        Check.is("tick(1)", x.tick(1), 9);
        Check.is("the time", x.about(5), 1);
        Check.is("tick(50)", x.tick(50), 9);
        Check.is("the time", x.about(5), 51);
        for (int n : new int[] {0, 51, -1, Integer.MIN_VALUE, Integer.MAX_VALUE}) {
            Check.refuses("tick(" + n + ")", Check.ARGUMENT, x, () -> x.tick(n));
        }
    }

    /** "v: new rate, 0 to 99", "IllegalArgumentException if v is out of range" */
    private static void ratesInRange() {
        CreditExchange x = Check.of("L009200305t099010000");
        Check.is("setRate(0, 0)", x.setRate(0, 0), 1);
        Check.is("setRate(0, 99)", x.setRate(0, 99), 0);
        Check.is("the rate", x.tenant(0, 1), 99);
        for (int v : new int[] {-1, 100, Integer.MIN_VALUE, Integer.MAX_VALUE}) {
            Check.refuses("setRate(0, " + v + ")", Check.ARGUMENT, x, () -> x.setRate(0, v));
            Check.refuses("no such tenant comes first", Check.INDEX, x, () -> x.setRate(1, v));
            Check.refuses("setRate(" + v + ", 5)", Check.INDEX, x, () -> x.setRate(v, 5));
        }
    }

    /** "v: new width, 1 to 999", "IllegalArgumentException if v is out of range" */
    private static void widthsInRange() {
        CreditExchange x = Check.of("L009200305t099010000");
        Check.is("setWidth(1)", x.setWidth(1), 9);
        Check.is("setWidth(999)", x.setWidth(999), 1);
        Check.is("the width", x.about(1), 999);
        for (int v : new int[] {0, 1000, -1, Integer.MIN_VALUE, Integer.MAX_VALUE}) {
            Check.refuses("setWidth(" + v + ")", Check.ARGUMENT, x, () -> x.setWidth(v));
        }
    }

    /** "increases by its rate, but at most to its capacity" */
    private static void fillsToTheCapacity() {
        int[][] rows = {{0, 3}, {6, 9}, {7, 10}, {8, 10}, {9, 10}, {10, 10}};
        for (int[] row : rows) {
            CreditExchange x = Check.of("L050200305t010030000");
            if (row[0] < 10) {
                x.ask(0, 9, 10 - row[0]);
            }
            x.tick(1);
            Check.is("the level after " + row[0], x.tenant(0, 2), row[1]);
        }
        CreditExchange x = Check.of("L050200305t010000000");
        x.ask(0, 9, 1);
        x.tick(50);
        Check.is("the rate 0", x.tenant(0, 2), 9);
    }

    /** "The level of each tenant that is not suspended": the last tick of a suspension, and the next one */
    private static void fillsNobodySuspended() {
        CreditExchange x = Check.suspended();
        Check.is("at 2", x.tenant(0, 2), 0);
        x.tick(1);
        Check.is("at 3", x.tenant(0, 2), 0);
        x.tick(1);
        Check.is("at 4", x.tenant(0, 2), 1);
    }

    /** "beginning with the tenant (time modulo number of tenants)" */
    private static void firstTenantOfARound() {
        for (int count = 1; count <= 6; count++) {
            CreditExchange x = Check.of("L010200305" + "t099000000".repeat(count));
            for (int t = 0; t < count; t++) {
                x.push(t, 10);
                x.push(t, 10);
            }
            for (int time = 1; time <= 2 * count; time++) {
                x.tick(1);
                for (int t = 0; t < count; t++) {
                    int turns = time / count + (t > 0 && time % count >= t ? 1 : 0);
                    Check.is("tenant " + t + " of " + count + " at " + time, x.tenant(t, 10), 10 * turns);
                }
            }
        }
    }

    /** "and going on by number, with tenant 0 after the last one" */
    private static void afterTheLastTenant() {
        // two messages fit into the link
        int[][] dues = {{0, 1, 1}, {1, 0, 1}, {1, 1, 0}, {0, 1, 1}};
        for (int time = 1; time <= 4; time++) {
            CreditExchange x = Check.of("L019200305" + "t099000000".repeat(3));
            if (time > 1) {
                x.tick(time - 1);
            }
            for (int t = 0; t < 3; t++) {
                x.push(t, 9);
            }
            Check.is("bytes at " + time, x.tick(1), 18);
            for (int t = 0; t < 3; t++) {
                Check.is("tenant " + t + " at " + time, x.tenant(t, 10), 9 * dues[time - 1][t]);
            }
        }
    }

    /** "In a round, all tenants come one after the other": each of them once, wherever the width ends the tick */
    private static void oneMessageInARound() {
        for (int count = 1; count <= 4; count++) {
            for (int width = 1; width <= 8 * count; width++) {
                CreditExchange x = Check.of("L001200305" + "t099000000".repeat(count));
                x.tick(2);
                x.setWidth(width);
                for (int k = 0; k < 8 * count; k++) {
                    x.push(k % count, 1);
                }
                x.tick(1);
                for (int t = 0; t < count; t++) {
                    int due = 0;
                    for (int k = 0; k < width; k++) {
                        due += (3 + k) % count == t ? 1 : 0;
                    }
                    Check.is("tenant " + t + " of " + count + " with the width " + width, x.tenant(t, 10), due);
                }
            }
        }
    }

    /** "If in a round no message was sent, there are no more rounds.": 48 messages in 8 rounds */
    private static void sendsAllQueues() {
        for (int width = 47; width <= 49; width++) {
            CreditExchange x = Check.of("L999200305" + "t099000000".repeat(6));
            x.setWidth(width);
            for (int k = 0; k < 48; k++) {
                x.push(k % 6, 1);
            }
            Check.is("bytes with the width " + width, x.tick(1), Math.min(48, width));
            // at time 1, tenant 0 comes last
            Check.is("what tenant 0 has left", x.tenant(0, 9), width == 47 ? 1 : 0);
            Check.is("what tenant 5 has left", x.tenant(5, 9), 0);
        }
    }

    /** "the size is at most its credits" */
    private static void sendsUpToTheCredits() {
        for (int size = 9; size <= 11; size++) {
            CreditExchange x = Check.of("L050200305t010000000");
            x.push(0, size);
            Check.is("a message of " + size + " with 10 credits", x.tick(1), size <= 10 ? size : 0);
            Check.is("the level then", x.tenant(0, 2), size <= 10 ? 10 - size : 10);
            Check.is("what was sent in all", x.tenant(0, 10), size <= 10 ? size : 0);
        }
        CreditExchange x = Check.of("L050200305t010000000m010m001");
        Check.is("no credits for the second message", x.tick(50), 10);
    }

    /** "Then as many credits as the size are taken from it.": from stock and bucket */
    private static void sendsFromStockAndBucket() {
        int[][] rows = {{3, 1, 6}, {4, 0, 6}, {5, 0, 5}, {10, 0, 0}};
        for (int[] row : rows) {
            CreditExchange x = Check.of("L050200305t010000000");
            x.ask(0, 9, 4);
            x.withdraw(0);
            x.push(0, row[0]);
            Check.is("a message of " + row[0], x.tick(1), row[0]);
            Check.is("the stock of 4 then", x.tenant(0, 3), row[1]);
            Check.is("the level of 6 then", x.tenant(0, 2), row[2]);
        }
    }

    /** "the size plus the bytes that were already sent in this tick is at most the width of the link" */
    private static void sendsUpToTheWidth() {
        for (int width = 29; width <= 31; width++) {
            CreditExchange x = Check.of("L0" + width + "200305t099000000t099000000m012m118");
            Check.is("12 + 18 with the width " + width, x.tick(1), width < 30 ? 18 : 30);
            Check.is("the rest", x.tick(1), width < 30 ? 12 : 0);
        }
        CreditExchange x = Check.of("L001200305t099000000m001m001m002");
        Check.is("the smallest width", x.tick(1), 1);
        Check.is("a new tick", x.tick(1), 1);
        Check.is("2 never fit", x.tick(50), 0);
        CreditExchange y = Check.of("L999200305" + "t999000000".repeat(2));
        for (int k = 0; k < 8; k++) {
            y.push(0, 99);
            y.push(1, 99);
        }
        Check.is("the greatest width: ten of 99", y.tick(1), 990);
    }

    /** "sends the first message of its queue": a later one does not overtake it */
    private static void waitsBehindTheFirstMessage() {
        CreditExchange x = Check.of("L010200305t099000000t005000000m011m001m106m101");
        Check.is("11 is too wide, 6 is too dear", x.tick(50), 0);
        x.setWidth(11);
        Check.is("11, and nothing beside it", x.tick(1), 11);
        Check.is("then 1", x.tick(1), 1);
    }

    /** "A tenant that comes sends .. if it is not suspended" */
    private static void sendsNothingWhileSuspended() {
        CreditExchange x = Check.suspended();
        x.push(0, 1);
        x.push(1, 1);
        Check.is("tenant 1 alone at 3", x.tick(1), 1);
        Check.is("tenant 0 waits", x.tenant(0, 9), 1);
        Check.is("it sends at 4", x.tick(1), 1);
        Check.is("its queue", x.tenant(0, 9), 0);
    }

    private static CreditExchange tradeAt(String interval) {
        CreditExchange x = Check.of("L050" + interval + "0305t010000000t001000900");
        x.ask(0, 5, 3);
        x.bid(1, 7, 3);
        return x;
    }

    /** "If the time is divisible by the interval, there is an auction.": at each time */
    private static void shortestInterval() {
        CreditExchange x = tradeAt("01");
        Check.is("none at 0", x.about(7), Check.NONE);
        x.tick(1);
        Check.is("at 1", x.about(7), 6);
        x.ask(0, 8, 3);
        x.bid(1, 8, 3);
        x.tick(1);
        Check.is("at 2", x.about(7), 8);
    }

    /** "If the time is divisible by the interval, there is an auction.": at 20, 40, .. */
    private static void longestInterval() {
        CreditExchange x = tradeAt("20");
        x.tick(19);
        Check.is("none at 19", x.about(7), Check.NONE);
        x.tick(1);
        Check.is("at 20", x.about(7), 6);
        x.ask(0, 8, 3);
        x.bid(1, 8, 3);
        x.tick(19);
        Check.is("none at 39", x.about(7), 6);
        x.tick(1);
        Check.is("at 40", x.about(7), 8);
    }

    /** "with a volume greater than 0": without volume an auction leaves all as it is */
    private static void auctionWithoutVolume() {
        CreditExchange x = Check.of("L050010305t010000000t001000900");
        x.ask(0, 8, 3);
        x.bid(1, 7, 3);
        x.tick(1);
        Check.is("the book", Check.book(x), "0,1,8,3,0;1,0,7,3,0;");
        Check.is("no price", x.about(7), Check.NONE);
        Check.is("tenant 0", Check.tenant(x, 0), "10,0,7,0,0,3,0,0,-9,0,0,-9");
        Check.is("tenant 1", Check.tenant(x, 1), "1,0,1,0,879,0,21,0,-9,0,0,-9");
    }

    /** Tenant 0 has a bucket of this level; at time 1 it sells 30 short to tenant 1, at 2 each. */
    private static CreditExchange soldShort(String term, String penalty, int level) {
        CreditExchange x = Check.of("L09901" + term + penalty + "t0" + level + "000000t050000100");
        x.askShort(0, 2, 30);
        x.bid(1, 2, 30);
        x.tick(1);
        return x;
    }

    /** "a new debt of the fill, which is due at the present time plus the term": the shortest one */
    private static void shortestTerm() {
        CreditExchange x = soldShort("01", "05", 40);
        Check.is("not collected at once", x.tenant(0, 7), 30);
        Check.is("due at 2", x.tenant(0, 8), 2);
        x.tick(1);
        Check.is("collected at 2", x.tenant(0, 7), 0);
        Check.is("from the bucket", x.tenant(0, 2), 10);
    }

    /** "a new debt of the fill, which is due at the present time plus the term": the longest one */
    private static void longestTerm() {
        CreditExchange x = soldShort("50", "05", 40);
        Check.is("due at 51", x.tenant(0, 8), 51);
        x.tick(49);
        Check.is("not collected at 50", x.tenant(0, 7), 30);
        Check.is("still due at 51", x.tenant(0, 8), 51);
        x.tick(1);
        Check.is("collected at 51", x.tenant(0, 7), 0);
        Check.is("none is due", x.tenant(0, 8), Check.NONE);
    }

    /** "All debts that are due at the present time or earlier are collected" */
    private static void dueNowNotBefore() {
        CreditExchange x = soldShort("03", "05", 40);
        x.tick(2);
        Check.is("all is there at 3", x.tenant(0, 2), 40);
        x.tick(1);
        Check.is("taken at 4", x.tenant(0, 2), 10);
        x.tick(50);
        Check.is("taken once", x.tenant(0, 2), 10);
    }

    /** "a new debt of the fill": of one credit */
    private static void smallestDebt() {
        CreditExchange x = Check.of("L050010205t010000000t001000100");
        x.askShort(0, 5, 9);
        x.bid(1, 5, 1);
        x.tick(1);
        Check.is("the debt", x.tenant(0, 7), 1);
        Check.is("due at 3", x.tenant(0, 8), 3);
        Check.is("what is left of the order", Check.book(x), "0,2,5,8,0;");
        x.tick(2);
        Check.is("no debt", x.tenant(0, 8), Check.NONE);
        Check.is("the level", x.tenant(0, 2), 9);
    }

    /** "greater than 99": debts of 99 in all, with and without the credits for them */
    private static void greatestDebt() {
        for (int level = 98; level <= 99; level++) {
            CreditExchange x = Check.of("L050010205t0" + level + "000000t001000099");
            x.askShort(0, 1, 99);
            x.bid(1, 1, 99);
            x.tick(1);
            Check.is("the debt", x.tenant(0, 7), 99);
            x.tick(2);
            Check.is("the level", x.tenant(0, 2), 0);
            Check.is("the house", x.about(6), level == 99 ? 0 : 5);
        }
    }

    /** "as many credits as the debt, or all if it has fewer, are taken from the tenant" */
    private static void creditsForADebt() {
        // level, then the level, the cash of 60 and the house after penalties of 5
        int[][] rows = {{31, 1, 60, 0}, {30, 0, 60, 0}, {29, 0, 55, 5}, {28, 0, 50, 10}};
        for (int[] row : rows) {
            CreditExchange x = soldShort("02", "05", row[0]);
            x.tick(2);
            Check.is("the level of " + row[0] + " then", x.tenant(0, 2), row[1]);
            Check.is("the cash with a level of " + row[0], x.tenant(0, 4), row[2]);
            Check.is("the house with a level of " + row[0], x.about(6), row[3]);
            Check.is("not suspended", x.tenant(0, 11), Check.NONE);
        }
    }

    /** "If some are still missing, all orders of the tenant are withdrawn, .. and again as many .. are taken" */
    private static void ordersForADebt() {
        // credits in asks, then the stock and the house; 40 in all
        int[][] rows = {{11, 10, 0}, {40, 10, 0}};
        for (int[] row : rows) {
            CreditExchange x = soldShort("02", "05", 40);
            x.ask(0, 90, row[0]);
            x.bid(0, 1, 60);
            x.askShort(0, 91, 1);
            x.ask(1, 92, 1);
            x.tick(2);
            Check.is("the other tenant's order stays", Check.book(x), "1,1,92,1,0;");
            Check.is("the stock with " + row[0] + " asked", x.tenant(0, 3), row[1]);
            Check.is("the cash returns", x.tenant(0, 4), 60);
            Check.is("the house", x.about(6), row[2]);
        }
        CreditExchange x = soldShort("02", "05", 30);
        x.ask(0, 90, 30);
        x.tick(2);
        Check.is("all was in the order, and just enough", Check.tenant(x, 0), "30,0,0,0,60,0,0,0,-9,0,0,-9");
    }

    /** "all orders of the tenant are withdrawn, in the order of their numbers": of a full book, some and all */
    private static void ordersOfAFullBook() {
        for (int others = 0; others <= 12; others++) {
            CreditExchange x = soldShort("02", "05", 29);
            StringBuilder left = new StringBuilder();
            for (int k = 0; k < 12; k++) {
                // those of tenant 1 stand first, last and between
                boolean isOther = (k * 5 + others) % 12 < others;
                x.askShort(isOther ? 1 : 0, 50 + k, 2);
                left.append(isOther ? "1,2," + (50 + k) + ",2,0;" : "");
            }
            x.tick(2);
            Check.is("the other tenant's " + others + " orders stay", Check.book(x), left.toString());
            Check.is("one is missing and paid for", x.about(6), 5);
        }
        CreditExchange x = soldShort("02", "05", 29);
        for (int k = 0; k < 12; k++) {
            x.ask(0, 50 + k, 2);
        }
        x.undo();
        x.ask(1, 90, 1);
        x.tick(2);
        Check.is("all credits of eleven asks, and 5 beside them", Check.tenant(x, 0), "29,0,0,0,55,0,0,0,-9,0,0,-9");
        Check.is("the last order stays", Check.book(x), "1,1,90,1,0;");
    }

    /** "If some are still missing, all orders of the tenant are withdrawn": they stay if nothing is missing */
    private static void ordersStay() {
        CreditExchange x = soldShort("02", "05", 40);
        x.ask(0, 90, 10);
        x.bid(0, 1, 60);
        x.askShort(0, 91, 1);
        x.tick(2);
        Check.is("the book", Check.book(x), "0,1,90,10,0;0,0,1,60,0;0,2,91,1,0;");
        Check.is("tenant 0", Check.tenant(x, 0), "40,0,0,0,0,10,60,0,-9,0,0,-9");
    }

    /** "the tenant pays the penalty .., as long as its cash is at least the penalty" */
    private static void cashForThePenalty() {
        // 3 credits are missing; the cash is 60: penalty, then cash, house and suspension
        int[][] rows = {{19, 3, 57, -9}, {20, 0, 60, -9}, {21, 18, 42, 7}, {30, 0, 60, 7}, {31, 29, 31, 7},
            {60, 0, 60, 7}, {61, 60, 0, 7}};
        for (int[] row : rows) {
            CreditExchange x = soldShort("02", String.valueOf(row[0]), 27);
            x.tick(2);
            Check.is("the cash, penalty " + row[0], x.tenant(0, 4), row[1]);
            Check.is("the house, penalty " + row[0], x.about(6), row[2]);
            Check.is("suspended until, penalty " + row[0], x.tenant(0, 11), row[3]);
            Check.is("the debt is gone", x.tenant(0, 7), 0);
        }
    }

    /** "two digits for the penalty (00 to 99)": 99 is paid as any other one */
    private static void greatestPenalty() {
        for (int cash = 98; cash <= 99; cash++) {
            CreditExchange x = soldShort("02", "99", 29);
            x.deposit(0, cash - 60);
            x.tick(2);
            Check.is("the house, cash " + cash, x.about(6), cash < 99 ? 0 : 99);
            Check.is("suspended until, cash " + cash, x.tenant(0, 11), cash < 99 ? 7 : Check.NONE);
        }
    }

    /** "as long as its cash is at least the penalty": it always is if the penalty is 0, also without cash */
    private static void noPenalty() {
        CreditExchange x = soldShort("02", "00", 10);
        x.bid(0, 1, 60);
        x.bid(1, 1, 1);
        x.tick(2);
        Check.is("the cash returned", x.tenant(0, 4), 60);
        Check.is("not suspended", x.tenant(0, 11), Check.NONE);
        CreditExchange y = soldShort("02", "00", 10);
        y.ask(1, 60, 1);
        y.bid(0, 60, 1);
        y.tick(1);
        Check.is("no cash", y.tenant(0, 4), 0);
        y.tick(1);
        Check.is("not suspended without cash", y.tenant(0, 11), Check.NONE);
        Check.is("the house", y.about(6), 0);
    }

    /** "the suspension of the tenant ends at the present time plus twice the term" */
    private static void suspendedForTwiceTheTerm() {
        int[] terms = {1, 2, 49, 50};
        for (int term : terms) {
            CreditExchange x = soldShort(String.format("%02d", term), "99", 10);
            x.tick(term);
            Check.is("suspended until, term " + term, x.tenant(0, 11), 1 + 3 * term);
            Check.is("at the last time", x.ahead(2 * term - 1 < 99 ? 2 * term - 1 : 99, 0, 11), 1 + 3 * term);
            if (2 * term <= 99) {
                Check.is("at the end", x.ahead(2 * term, 0, 11), Check.NONE);
            }
        }
        CreditExchange x = soldShort("50", "99", 10);
        x.tick(50);
        x.tick(50);
        x.tick(49);
        Check.is("the longest one, at 150", x.tenant(0, 11), 151);
        x.tick(1);
        Check.is("the longest one, at 151", x.tenant(0, 11), Check.NONE);
    }

    /** "(also if it was suspended before)" */
    private static void suspendedBefore() {
        CreditExchange x = soldShort("02", "99", 10);
        x.askShort(0, 2, 5);
        x.bid(1, 2, 5);
        x.tick(1);
        x.tick(1);
        Check.is("at 3", x.tenant(0, 11), 7);
        x.tick(1);
        Check.is("anew at 4", x.tenant(0, 11), 8);
        x.tick(3);
        Check.is("at 7", x.tenant(0, 11), 8);
        x.tick(1);
        Check.is("at 8", x.tenant(0, 11), Check.NONE);
    }

    /** "for each tenant the oldest debt first": the first one takes all credits, the second one none, some or all cash */
    private static void debtsDueAtOnce() {
        // cash beside the 34 for 17 credits, then cash, house and suspension; 9 are missing, for 5 each
        int[][] rows = {{0, 4, 30, 7}, {10, 4, 40, 7}, {11, 0, 45, -9}, {12, 1, 45, -9}};
        for (int[] row : rows) {
            CreditExchange x = Check.of(String.format("L099010205t00800%04dt001000999", row[0]));
            x.askShort(0, 2, 8);
            x.askShort(0, 2, 9);
            x.bid(1, 2, 17);
            x.tick(1);
            Check.is("both debts", x.tenant(0, 7), 17);
            x.tick(2);
            Check.is("the cash of 34 and " + row[0], x.tenant(0, 4), row[1]);
            Check.is("the house with " + row[0], x.about(6), row[2]);
            Check.is("suspended until, with " + row[0], x.tenant(0, 11), row[3]);
            Check.is("no debts", x.tenant(0, 7), 0);
        }
    }

    /** "tenant by tenant in the order of their numbers": each of its own credits and cash */
    private static void debtsOfSeveralTenants() {
        CreditExchange x = Check.of("L099010250t005000000t003000000t004000100");
        x.askShort(0, 10, 5);
        x.askShort(1, 10, 5);
        x.bid(2, 10, 10);
        x.tick(3);
        Check.is("just enough credits", Check.tenant(x, 0), "5,0,0,0,50,0,0,0,-9,0,0,-9");
        Check.is("2 missing, one of them paid for", Check.tenant(x, 1), "3,0,0,0,0,0,0,0,-9,0,0,7");
        Check.is("no debts", Check.tenant(x, 2), "4,0,4,10,0,0,0,0,-9,0,0,-9");
        Check.is("the house", x.about(6), 50);
    }

    /** A debt of 3 due at 2, a level of 1, and 2 credits that are bought at 2. */
    private static CreditExchange buysInTime() {
        CreditExchange x = Check.of("L099010199t001000100t050000100");
        x.askShort(0, 10, 3);
        x.bid(1, 10, 3);
        x.tick(1);
        x.bid(0, 10, 2);
        x.ask(1, 10, 2);
        return x;
    }

    /** "A tick does the following.": what an auction brings is there for debts, not for messages */
    private static void stepsOfATick() {
        CreditExchange x = buysInTime();
        x.tick(1);
        Check.is("just enough", Check.tenant(x, 0), "1,0,0,0,110,0,0,0,-9,0,0,-9");
        CreditExchange y = Check.of("L099010199t001000100t050000100m002");
        y.bid(0, 10, 1);
        y.ask(1, 10, 1);
        Check.is("not sent in the tick of the auction", y.tick(1), 0);
        Check.is("sent in the next one", y.tick(1), 2);
        CreditExchange z = Check.of("L099010199t009020100");
        z.ask(0, 9, 9);
        z.push(0, 2);
        Check.is("the bucket is filled before", z.tick(1), 2);
    }

    /** "A tick does the following.": messages take credits before debts do */
    private static void messagesBeforeDebts() {
        CreditExchange x = buysInTime();
        x.push(0, 1);
        Check.is("sent", x.tick(1), 1);
        Check.is("one is missing", Check.tenant(x, 0), "1,0,0,0,11,0,0,0,-9,0,1,-9");
        Check.is("the house", x.about(6), 99);
    }
}
