/** The boundary cases of the section ORDERS and of promises 9 to 13, each with the sentence that names it. */
public final class OrderEdgeTest {
    private static final String LINK = "L050200305";
    private static final int[] NOT_TWO_DIGITS = {0, 100, -1, Integer.MIN_VALUE, Integer.MAX_VALUE};

    public static void main(String[] args) {
        twelveOrders();
        thirteenthOrder();
        placesInTheBook();
        smallestOrder();
        greatestOrder();
        pricesOutOfRange();
        quantitiesOutOfRange();
        quantityDecreases();
        tenantsOutOfRange();
        cashForABid();
        creditsForAnAsk();
        shortAsksAlone();
        debtsAndShortAsks();
        shortAsksOfOthers();
        suspendedTenants();
        suspendedTenantsMayDoOther();
        numbersOfAnOrder();
        fillOfAnOrder();
        withdrawnBid();
        withdrawnAsk();
        withdrawnAskBeyondTheCapacity();
        withdrawnShortAsk();
        withdrawnRest();
        withdrawOutOfRange();
        Check.end();
    }

    private static CreditExchange withOrders(int count) {
        CreditExchange x = Check.of(LINK + "t050000000t050000100");
        for (int k = 0; k < count; k++) {
            x.askShort(0, 10 + k, 1);
        }
        return x;
    }

    /** "The book is a list of at most 12 orders" */
    private static void twelveOrders() {
        Check.is("a bid as number 11", withOrders(11).bid(1, 1, 1), 11);
        Check.is("an ask as number 11", withOrders(11).ask(1, 99, 1), 11);
        Check.is("a short ask as number 11", withOrders(11).askShort(1, 99, 1), 11);
        Check.is("the number of orders", withOrders(12).about(8), 12);
    }

    /** "IllegalStateException if the book is full" */
    private static void thirteenthOrder() {
        CreditExchange x = withOrders(12);
        Check.refuses("a bid", Check.STATE, x, () -> x.bid(1, 1, 1));
        Check.refuses("an ask", Check.STATE, x, () -> x.ask(1, 99, 1));
        Check.refuses("a short ask", Check.STATE, x, () -> x.askShort(1, 99, 1));
        x.withdraw(11);
        Check.is("when there is room again", x.bid(1, 1, 1), 11);
    }

    /** "the oldest one first; the place of an order in it, from 0, is its number" */
    private static void placesInTheBook() {
        int[][] dues = {{11, 12, 13}, {10, 12, 13}, {10, 11, 13}, {10, 11, 12}};
        for (int i = 0; i < 4; i++) {
            CreditExchange x = withOrders(4);
            x.withdraw(i);
            for (int k = 0; k < 3; k++) {
                Check.is("order " + k + " without " + i, x.order(k, 2), dues[i][k]);
            }
            Check.refuses("order 3 without " + i, Check.INDEX, x, () -> x.order(3, 2));
            Check.is("a new order", x.askShort(0, 50, 1), 3);
        }
        CreditExchange x = withOrders(12);
        for (int k = 0; k < 12; k++) {
            Check.is("the oldest one", x.order(0, 2), 10 + k);
            Check.is("withdraw(0)", x.withdraw(0), 1);
        }
        Check.is("an empty book", x.about(8), 0);
    }

    /** "a price from 1 to 99 and a quantity, 1 to 99 at first": the smallest order */
    private static void smallestOrder() {
        CreditExchange x = Check.of(LINK + "t001000001");
        Check.is("bid(0, 1, 1)", x.bid(0, 1, 1), 0);
        Check.is("ask(0, 1, 1)", x.ask(0, 1, 1), 1);
        Check.is("askShort(0, 1, 1)", x.askShort(0, 1, 1), 2);
        Check.is("the book", Check.book(x), "0,0,1,1,1;0,1,1,1,1;0,2,1,1,0;");
        Check.is("all is set aside", Check.tenant(x, 0), "1,0,0,0,0,1,1,0,-9,0,0,-9");
    }

    /** "a price from 1 to 99 and a quantity, 1 to 99 at first": the greatest order */
    private static void greatestOrder() {
        CreditExchange x = Check.of(LINK + "t099009801");
        Check.is("bid(0, 99, 99)", x.bid(0, 99, 99), 0);
        Check.is("ask(0, 99, 99)", x.ask(0, 99, 99), 1);
        Check.is("askShort(0, 99, 99)", x.askShort(0, 99, 99), 2);
        Check.is("the book", Check.book(x), "0,0,99,99,99;0,1,99,99,99;0,2,99,99,0;");
        Check.is("all is set aside", Check.tenant(x, 0), "99,0,0,0,0,99,9801,0,-9,0,0,-9");
    }

    private static CreditExchange rich() {
        return Check.of(LINK + "t999009999");
    }

    /** "IllegalArgumentException if price or quantity is out of range": price */
    private static void pricesOutOfRange() {
        for (int v : NOT_TWO_DIGITS) {
            CreditExchange x = rich();
            Check.refuses("bid at " + v, Check.ARGUMENT, x, () -> x.bid(0, v, 1));
            Check.refuses("ask at " + v, Check.ARGUMENT, x, () -> x.ask(0, v, 1));
            Check.refuses("askShort at " + v, Check.ARGUMENT, x, () -> x.askShort(0, v, 1));
        }
    }

    /** "IllegalArgumentException if price or quantity is out of range": quantity */
    private static void quantitiesOutOfRange() {
        for (int v : NOT_TWO_DIGITS) {
            CreditExchange x = rich();
            Check.refuses("bid for " + v, Check.ARGUMENT, x, () -> x.bid(0, 1, v));
            Check.refuses("ask for " + v, Check.ARGUMENT, x, () -> x.ask(0, 1, v));
            Check.refuses("askShort for " + v, Check.ARGUMENT, x, () -> x.askShort(0, 1, v));
            Check.refuses("both out of range", Check.ARGUMENT, x, () -> x.bid(0, v, v));
        }
    }

    /** "1 to 99 at first": later less, down to 1 */
    private static void quantityDecreases() {
        CreditExchange x = Check.of("L050010305t099000000t001009999");
        x.ask(0, 5, 99);
        x.bid(1, 5, 98);
        x.tick(1);
        Check.is("one is left", Check.book(x), "0,1,5,1,0;");
        Check.is("credits set aside", x.tenant(0, 5), 1);
        x.bid(1, 5, 1);
        x.tick(1);
        Check.is("nothing is left", Check.book(x), "");
    }

    /** "IndexOutOfBoundsException if there is no such tenant" */
    private static void tenantsOutOfRange() {
        for (int t : new int[] {-1, 2, 6, Integer.MIN_VALUE, Integer.MAX_VALUE}) {
            CreditExchange x = withOrders(0);
            Check.refuses("bid of " + t, Check.INDEX, x, () -> x.bid(t, 1, 1));
            Check.refuses("ask of " + t, Check.INDEX, x, () -> x.ask(t, 1, 1));
            Check.refuses("askShort of " + t, Check.INDEX, x, () -> x.askShort(t, 1, 1));
        }
    }

    /** "its cash is less than price times quantity" */
    private static void cashForABid() {
        CreditExchange x = Check.of(LINK + "t001000059t001000060t001000061");
        Check.refuses("6 * 10 of 59", Check.STATE, x, () -> x.bid(0, 6, 10));
        Check.is("6 * 10 of 60", x.bid(1, 6, 10), 0);
        Check.is("nothing is left", x.tenant(1, 4), 0);
        Check.is("6 * 10 of 61", x.bid(2, 6, 10), 1);
        Check.is("1 is left", x.tenant(2, 4), 1);
        CreditExchange y = Check.of(LINK + "t001009800");
        Check.refuses("99 * 99 of 9800", Check.STATE, y, () -> y.bid(0, 99, 99));
        Check.is("98 * 99 of 9800", y.bid(0, 98, 99), 0);
    }

    /** "its credits are fewer than quantity" */
    private static void creditsForAnAsk() {
        CreditExchange x = Check.of(LINK + "t009000000t010000000t011000000");
        Check.refuses("10 of 9", Check.STATE, x, () -> x.ask(0, 5, 10));
        Check.is("10 of 10", x.ask(1, 5, 10), 0);
        Check.is("10 of 11", x.ask(2, 5, 10), 1);
        Check.refuses("1 of 0", Check.STATE, x, () -> x.ask(1, 5, 1));
        Check.is("1 of 1", x.ask(2, 5, 1), 2);
    }

    /** "the sum of its debts, of the quantities of its short asks and of quantity is greater than 99": one by one */
    private static void shortAsksAlone() {
        CreditExchange x = Check.of(LINK + "t001000000");
        Check.is("98", x.askShort(0, 5, 98), 0);
        Check.refuses("98 + 2", Check.STATE, x, () -> x.askShort(0, 5, 2));
        Check.is("98 + 1", x.askShort(0, 5, 1), 1);
        Check.refuses("99 + 1", Check.STATE, x, () -> x.askShort(0, 5, 1));
        Check.is("99 at once", Check.of(LINK + "t001000000").askShort(0, 5, 99), 0);
    }

    /** A debt of 30, and short asks of 40. */
    private static CreditExchange owing() {
        CreditExchange x = Check.of("L050015005t001000000t001000900");
        x.askShort(0, 5, 30);
        x.bid(1, 5, 30);
        x.tick(1);
        x.askShort(0, 9, 25);
        x.askShort(0, 9, 15);
        return x;
    }

    /** "the sum of its debts, of the quantities of its short asks and of quantity is greater than 99": together */
    private static void debtsAndShortAsks() {
        CreditExchange x = owing();
        Check.refuses("30 + 40 + 30", Check.STATE, x, () -> x.askShort(0, 9, 30));
        Check.is("30 + 40 + 29", x.askShort(0, 9, 29), 2);
        x.withdraw(0);
        Check.refuses("30 + 44 + 26", Check.STATE, x, () -> x.askShort(0, 9, 26));
        Check.is("30 + 44 + 25", x.askShort(0, 9, 25), 2);
    }

    /** "of its debts, of the quantities of its short asks": asks of kind 1, bids and other tenants do not count */
    private static void shortAsksOfOthers() {
        CreditExchange x = owing();
        Check.is("another tenant", x.askShort(1, 9, 99), 2);
        x.ask(0, 99, 1);
        x.bid(0, 1, 50);
        Check.refuses("30 + 40 + 30", Check.STATE, x, () -> x.askShort(0, 9, 30));
        Check.is("30 + 40 + 29", x.askShort(0, 9, 29), 5);
    }

    /** Suspended until 4, with cash. */
    private static CreditExchange suspended() {
        CreditExchange x = Check.suspended();
        x.deposit(0, 50);
        return x;
    }

    /** "the tenant is suspended": until its suspension ends */
    private static void suspendedTenants() {
        CreditExchange x = suspended();
        Check.is("suspended until", x.tenant(0, 11), 4);
        for (int time = 2; time <= 3; time++) {
            Check.is("the time", x.about(5), time);
            Check.refuses("bid at " + time, Check.STATE, x, () -> x.bid(0, 1, 1));
            Check.refuses("ask at " + time, Check.STATE, x, () -> x.ask(0, 1, 1));
            Check.refuses("askShort at " + time, Check.STATE, x, () -> x.askShort(0, 1, 1));
            Check.is("the other tenant at " + time, x.bid(1, 1, 1), time - 2);
            x.tick(1);
        }
        Check.is("bid at 4", x.bid(0, 1, 1), 2);
        Check.is("askShort at 4", x.askShort(0, 99, 1), 3);
        Check.is("ask at 4", x.ask(0, 99, 1), 4);
    }

    /** "the tenant is suspended": this keeps it from orders alone */
    private static void suspendedTenantsMayDoOther() {
        CreditExchange x = suspended();
        Check.is("push", x.push(0, 1), 1);
        Check.is("deposit", x.deposit(0, 1), 5 + 50 + 1);
        Check.is("setRate", x.setRate(0, 9), 1);
        Check.is("volumeIf", x.volumeIf(0, 0, 99, 1), 0);
    }

    /** "IllegalArgumentException if what is not 0 to 4", "IndexOutOfBoundsException if there is no such order" */
    private static void numbersOfAnOrder() {
        CreditExchange x = withOrders(3);
        Check.is("order(0, 0)", x.order(0, 0), 0);
        Check.is("order(2, 4)", x.order(2, 4), 0);
        for (int what : new int[] {-1, 5, Integer.MIN_VALUE, Integer.MAX_VALUE}) {
            Check.refuses("order(2, " + what + ")", Check.ARGUMENT, x, () -> x.order(2, what));
            Check.refuses("no such order comes first", Check.INDEX, x, () -> x.order(3, what));
        }
        for (int i : new int[] {-1, 3, 11, 12, Integer.MIN_VALUE, Integer.MAX_VALUE}) {
            Check.refuses("order(" + i + ", 0)", Check.INDEX, x, () -> x.order(i, 0));
        }
        CreditExchange full = withOrders(12);
        Check.is("the last one of a full book", full.order(11, 2), 21);
        Check.refuses("one more", Check.INDEX, full, () -> full.order(12, 2));
        CreditExchange empty = withOrders(0);
        Check.refuses("an empty book", Check.INDEX, empty, () -> empty.order(0, 2));
    }

    /** "its fill if there were an auction now": from nothing to all */
    private static void fillOfAnOrder() {
        int[][] rows = {{9, 5, 0}, {10, 1, 1}, {10, 4, 4}, {10, 5, 5}, {10, 6, 5}};
        for (int[] row : rows) {
            CreditExchange x = Check.of(LINK + "t050000000t001009999");
            x.ask(0, 10, 5);
            x.bid(1, row[0], row[1]);
            Check.is("the fill of the ask, with a bid of " + row[1] + " at " + row[0], x.order(0, 4), row[2]);
            Check.is("the fill of the bid of " + row[1] + " at " + row[0], x.order(1, 4), row[2]);
            Check.is("the quantity stays", x.order(0, 3), 5);
        }
    }

    /** "the cash that is set aside for it returns to the cash" */
    private static void withdrawnBid() {
        CreditExchange x = Check.of(LINK + "t099009801");
        x.bid(0, 99, 99);
        Check.is("withdraw", x.withdraw(0), 99);
        Check.is("all is as before", Check.tenant(x, 0), "99,0,99,0,9801,0,0,0,-9,0,0,-9");
    }

    /** "and the credits that are set aside for it to the stock of its tenant" */
    private static void withdrawnAsk() {
        CreditExchange x = Check.of(LINK + "t099009801");
        x.ask(0, 99, 99);
        Check.is("withdraw", x.withdraw(0), 99);
        Check.is("all in the stock", Check.tenant(x, 0), "99,0,0,99,9801,0,0,0,-9,0,0,-9");
    }

    /** "the credits that are set aside for it to the stock of its tenant": the capacity does not limit it */
    private static void withdrawnAskBeyondTheCapacity() {
        CreditExchange x = Check.of(LINK + "t010100000");
        x.ask(0, 99, 10);
        x.tick(1);
        x.withdraw(0);
        Check.is("a full bucket and the stock", Check.tenant(x, 0), "10,10,10,10,0,0,0,0,-9,0,0,-9");
        Check.is("an ask for all of it", x.ask(0, 99, 20), 0);
    }

    /** "a short ask (nothing is set aside)" */
    private static void withdrawnShortAsk() {
        CreditExchange x = Check.of(LINK + "t099009801");
        x.askShort(0, 99, 99);
        Check.is("nothing is set aside", Check.tenant(x, 0), "99,0,99,0,9801,0,0,0,-9,0,0,-9");
        Check.is("withdraw", x.withdraw(0), 99);
        Check.is("nothing returns", Check.tenant(x, 0), "99,0,99,0,9801,0,0,0,-9,0,0,-9");
    }

    /** "Returns its quantity": what is left of it */
    private static void withdrawnRest() {
        CreditExchange x = Check.of("L050010505t050000000t050000100");
        x.ask(0, 5, 9);
        x.bid(1, 5, 8);
        x.tick(1);
        Check.is("one is left", x.withdraw(0), 1);
        Check.is("and returns", Check.tenant(x, 0), "50,0,41,1,40,0,0,0,-9,0,0,-9");
    }

    /** "IndexOutOfBoundsException if there is no such order" */
    private static void withdrawOutOfRange() {
        for (int count : new int[] {0, 1, 12}) {
            for (int i : new int[] {-1, count, 12, Integer.MIN_VALUE, Integer.MAX_VALUE}) {
                CreditExchange x = withOrders(count);
                Check.refuses("withdraw(" + i + ") of " + count, Check.INDEX, x, () -> x.withdraw(i));
            }
        }
        Check.is("the last one of a full book", withOrders(12).withdraw(11), 1);
        Check.is("the only one", withOrders(1).withdraw(0), 1);
    }
}
