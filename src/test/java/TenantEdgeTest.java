/** The boundary cases of the section TENANTS and of promises 1 and 6 to 8, each with the sentence that names it. */
public final class TenantEdgeTest {
    private static final String LINK = "L050200305";

    public static void main(String[] args) {
        newObject();
        oneToSixTenants();
        smallestBucket();
        greatestBucket();
        takesFromStockFirst();
        creditsSetAside();
        cashSetAside();
        timeAtFirst();
        houseAtFirst();
        suspensionEnds();
        aboutNumbers();
        noAuctionYet();
        bytesOfTheLastTick();
        tenantNumbers();
        noDebts();
        severalDebts();
        notSuspended();
        emptyQueue();
        fullQueue();
        placesInTheQueue();
        Check.end();
    }

    /** "A new object has one tenant with the capacity 1, the rate 0, the level 1, .." */
    private static void newObject() {
        CreditExchange x = new CreditExchange();
        int[] abouts = {1, 1, 1, 1, 0, 0, 0, -9, 0, 0};
        for (int what = 0; what <= 9; what++) {
            Check.is("about(" + what + ")", x.about(what), abouts[what]);
        }
        int[] numbers = {1, 0, 1, 0, 0, 0, 0, 0, -9, 0, 0, -9};
        for (int what = 0; what <= 11; what++) {
            Check.is("tenant(0, " + what + ")", x.tenant(0, what), numbers[what]);
        }
        Check.refuses("there is no second tenant", Check.INDEX, x, () -> x.tenant(1, 0));
        Check.refuses("there is no order", Check.INDEX, x, () -> x.order(0, 0));
        Check.is("there is no message", x.message(0, 0), Check.NONE);
        Check.is("nothing is remembered", Check.canUndo(x), Check.NONE);
        Check.is("slot 0 is empty", Check.canRestore(x, 0), Check.NONE);
        Check.is("slot 1 is empty", Check.canRestore(x, 1), Check.NONE);
        Check.is("the text is empty", x.clearText(), 0);
    }

    /** "There are 1 to 6 tenants, numbered from 0." */
    private static void oneToSixTenants() {
        for (int count = 1; count <= 6; count++) {
            StringBuilder text = new StringBuilder(LINK);
            for (int t = 0; t < count; t++) {
                text.append("t01").append(t).append("000000");
            }
            CreditExchange x = Check.of(text.toString());
            for (int t = 0; t < count; t++) {
                Check.is("the capacity of tenant " + t, x.tenant(t, 0), 10 + t);
            }
            for (int t : new int[] {-1, count, 6, Integer.MIN_VALUE, Integer.MAX_VALUE}) {
                Check.refuses("tenant(" + t + ", 0) of " + count, Check.INDEX, x, () -> x.tenant(t, 0));
                Check.refuses("message(" + t + ", 0) of " + count, Check.INDEX, x, () -> x.message(t, 0));
            }
        }
    }

    private static int level(CreditExchange x) {
        return x.tenant(0, 2);
    }

    private static int stock(CreditExchange x) {
        return x.tenant(0, 3);
    }

    /** "a capacity from 1 to 999, a rate from 0 to 99 and a level from 0 to the capacity": the smallest one */
    private static void smallestBucket() {
        CreditExchange x = Check.of(LINK + "t001990000");
        Check.is("the level at first", level(x), 1);
        x.ask(0, 9, 1);
        Check.is("an empty bucket", level(x), 0);
        x.tick(1);
        Check.is("full again, though the rate is 99", level(x), 1);
    }

    /** "a capacity from 1 to 999, a rate from 0 to 99 and a level from 0 to the capacity": the greatest one */
    private static void greatestBucket() {
        CreditExchange x = Check.of(LINK + "t999990000");
        Check.is("the level at first", level(x), 999);
        for (int k = 0; k < 10; k++) {
            x.ask(0, 9, 99);
        }
        x.ask(0, 9, 9);
        Check.is("an empty bucket", level(x), 0);
        x.tick(10);
        Check.is("10 ticks", level(x), 990);
        x.tick(1);
        Check.is("11 ticks", level(x), 999);
    }

    /** "from its stock first, and from its bucket when the stock is empty" */
    private static void takesFromStockFirst() {
        int[][] due = {{4, 1, 5}, {5, 0, 5}, {6, 0, 4}, {9, 0, 1}, {10, 0, 0}};
        for (int[] row : due) {
            CreditExchange x = Check.of(LINK + "t010000000");
            x.ask(0, 9, 5);
            x.withdraw(0);
            x.ask(0, 9, row[0]);
            Check.is("the stock of 5 without " + row[0], stock(x), row[1]);
            Check.is("the level of 5 without " + row[0], level(x), row[2]);
        }
        CreditExchange x = Check.of(LINK + "t010000000");
        x.ask(0, 9, 5);
        x.withdraw(0);
        Check.refuses("11 of 5 and 5", Check.STATE, x, () -> x.ask(0, 9, 11));
    }

    /** "Credits and cash that belong to an order are set aside: the tenant does not have them then." */
    private static void creditsSetAside() {
        CreditExchange x = Check.of(LINK + "t010000000");
        x.ask(0, 9, 4);
        Check.is("credits set aside", x.tenant(0, 5), 4);
        Check.refuses("an ask for 7 of 6", Check.STATE, x, () -> x.ask(0, 9, 7));
        x.push(0, 7);
        Check.is("a message of 7 is not sent", x.tick(1), 0);
        Check.is("a script sees 6 credits", x.runScript(1, 700006), Check.NONE);
        Check.is("and not 7", x.runScript(1, 700007), 0);
        x.withdraw(0);
        Check.is("it is sent when they return", x.tick(1), 7);
    }

    /** "Credits and cash that belong to an order are set aside: the tenant does not have them then." */
    private static void cashSetAside() {
        CreditExchange x = Check.of(LINK + "t010000100");
        x.bid(0, 10, 4);
        Check.is("cash set aside", x.tenant(0, 6), 40);
        Check.is("cash", x.tenant(0, 4), 60);
        Check.refuses("a bid for 61", Check.STATE, x, () -> x.bid(0, 61, 1));
        Check.is("a script sees 60", x.runScript(1, 600060), Check.NONE);
        Check.is("and not 61", x.runScript(1, 600061), 0);
        Check.is("a bid for 60", x.bid(0, 60, 1), 1);
        Check.is("no cash", x.tenant(0, 4), 0);
    }

    /** "The time is an int, 0 at first." */
    private static void timeAtFirst() {
        CreditExchange x = Check.of(LINK + "t010000000");
        Check.is("the time after load", x.about(5), 0);
        x.tick(1);
        Check.is("the time after a tick", x.about(5), 1);
        for (int k = 0; k < 400; k++) {
            x.tick(50);
        }
        Check.is("the time after many ticks", x.about(5), 20001);
    }

    /** "The house has cash, 0 at first." */
    private static void houseAtFirst() {
        Check.is("a new object", new CreditExchange().about(6), 0);
        Check.is("after load", Check.of(LINK + "t010000100").about(6), 0);
    }

    /** "suspended if its suspension ends at a time that is greater than the present time" */
    private static void suspensionEnds() {
        CreditExchange x = Check.suspended();
        Check.is("at 2", x.tenant(0, 11), 4);
        x.tick(1);
        Check.is("at 3", x.tenant(0, 11), 4);
        Check.refuses("an order at 3", Check.STATE, x, () -> x.askShort(0, 1, 1));
        x.tick(1);
        Check.is("at 4", x.tenant(0, 11), Check.NONE);
        Check.is("an order at 4", x.askShort(0, 1, 1), 0);
    }

    /** "IllegalArgumentException if what is not 0 to 9" */
    private static void aboutNumbers() {
        CreditExchange x = Check.of("L012030405t010030020t020020500");
        Check.is("about(0)", x.about(0), 2);
        Check.is("about(9)", x.about(9), 0);
        for (int what : new int[] {-1, 10, Integer.MIN_VALUE, Integer.MAX_VALUE}) {
            Check.refuses("about(" + what + ")", Check.ARGUMENT, x, () -> x.about(what));
        }
    }

    /** "the price of the last auction with a volume greater than 0 (NONE if there was none)" */
    private static void noAuctionYet() {
        CreditExchange x = Check.of("L050010305t010000100");
        Check.is("no auction", x.about(7), Check.NONE);
        x.tick(1);
        Check.is("an auction without volume", x.about(7), Check.NONE);
        x.ask(0, 1, 1);
        x.bid(0, 1, 1);
        x.tick(1);
        Check.is("a volume of 1", x.about(7), 1);
        x.tick(1);
        Check.is("then an auction without volume", x.about(7), 1);
        x.ask(0, 99, 1);
        x.bid(0, 99, 1);
        x.tick(1);
        Check.is("another one with volume", x.about(7), 99);
    }

    /** "the bytes that were sent in the last tick (0 if there was none)" */
    private static void bytesOfTheLastTick() {
        CreditExchange x = Check.of(LINK + "t010000100m009");
        Check.is("no tick", x.about(9), 0);
        x.tick(1);
        Check.is("one tick", x.about(9), 9);
        x.undo();
        Check.is("no tick again", x.about(9), 0);
        Check.is("two ticks", x.tick(2), 9);
        Check.is("the last one alone counts", x.about(9), 0);
    }

    /** "IllegalArgumentException if what is not 0 to 11" */
    private static void tenantNumbers() {
        CreditExchange x = Check.of(LINK + "t012030020");
        Check.is("tenant(0, 0)", x.tenant(0, 0), 12);
        Check.is("tenant(0, 11)", x.tenant(0, 11), Check.NONE);
        for (int what : new int[] {-1, 12, Integer.MIN_VALUE, Integer.MAX_VALUE}) {
            Check.refuses("tenant(0, " + what + ")", Check.ARGUMENT, x, () -> x.tenant(0, what));
            Check.refuses("no such tenant comes first", Check.INDEX, x, () -> x.tenant(1, what));
        }
    }

    /** "the earliest time at which a debt is due (NONE if it has none)" */
    private static void noDebts() {
        CreditExchange x = Check.of("L050010205t010000100");
        x.askShort(0, 5, 3);
        Check.is("a short ask is no debt", x.tenant(0, 8), Check.NONE);
        Check.is("nor counts as one", x.tenant(0, 7), 0);
        x.bid(0, 5, 3);
        x.tick(1);
        Check.is("a debt", x.tenant(0, 7), 3);
        Check.is("due at 1 + 2", x.tenant(0, 8), 3);
        x.tick(1);
        Check.is("just before it is due", x.tenant(0, 8), 3);
        x.tick(1);
        Check.is("when it was collected", x.tenant(0, 7), 0);
        Check.is("none again", x.tenant(0, 8), Check.NONE);
    }

    /** "the sum of its debts", "the earliest time at which a debt is due" */
    private static void severalDebts() {
        CreditExchange x = Check.of("L050010205t010000100");
        x.askShort(0, 5, 3);
        x.bid(0, 5, 3);
        x.tick(1);
        x.askShort(0, 5, 4);
        x.bid(0, 5, 4);
        x.tick(1);
        Check.is("both debts", x.tenant(0, 7), 7);
        Check.is("the earlier one", x.tenant(0, 8), 3);
        x.tick(1);
        Check.is("the later debt", x.tenant(0, 7), 4);
        Check.is("is due at 2 + 2", x.tenant(0, 8), 4);
    }

    /** "the time at which its suspension ends (NONE if it is not suspended)" */
    private static void notSuspended() {
        CreditExchange x = Check.suspended();
        Check.is("the suspended one", x.tenant(0, 11), 4);
        Check.is("the other one", x.tenant(1, 11), Check.NONE);
        x.undo();
        Check.is("undone", x.tenant(0, 11), Check.NONE);
    }

    /** "NONE if there are not so many": the empty queue */
    private static void emptyQueue() {
        CreditExchange x = Check.of(LINK + "t012030020");
        for (int i = 0; i <= 7; i++) {
            Check.is("message(0, " + i + ")", x.message(0, i), Check.NONE);
        }
        Check.is("the number of messages", x.tenant(0, 9), 0);
    }

    /** "NONE if there are not so many": from one message to the full queue and back */
    private static void fullQueue() {
        CreditExchange x = Check.of("L001200305t012030020");
        for (int count = 1; count <= 8; count++) {
            x.push(0, 20 + count);
            for (int i = 0; i <= 7; i++) {
                Check.is(count + " messages, number " + i, x.message(0, i), i < count ? 21 + i : Check.NONE);
            }
        }
        CreditExchange y = Check.of("L001200305t012030020" + "m001".repeat(8));
        for (int count = 7; count >= 0; count--) {
            y.tick(1);
            Check.is("the number of messages", y.tenant(0, 9), count);
            Check.is("the place behind the last one", y.message(0, count), Check.NONE);
        }
    }

    /** "i: place in the queue, 0 to 7", "IllegalArgumentException if i is out of range" */
    private static void placesInTheQueue() {
        CreditExchange x = Check.of(LINK + "t012030020" + "m011m012m013m014m015m016m017m018");
        Check.is("place 0", x.message(0, 0), 11);
        Check.is("place 7", x.message(0, 7), 18);
        for (int i : new int[] {-1, 8, Integer.MIN_VALUE, Integer.MAX_VALUE}) {
            Check.refuses("message(0, " + i + ")", Check.ARGUMENT, x, () -> x.message(0, i));
            Check.refuses("no such tenant comes first", Check.INDEX, x, () -> x.message(1, i));
        }
    }
}
