/** Promises 10 to 13: bid, ask, askShort, withdraw. */
public final class OrdersTest {
    private static final int[] NOT_TWO_DIGITS = {0, -1, 100, Integer.MIN_VALUE, Integer.MAX_VALUE};
    private static final int[] NO_TENANT = {-1, 2, 6, Integer.MIN_VALUE, Integer.MAX_VALUE};

    public static void main(String[] args) {
        wrongArguments();
        bids();
        asks();
        shortAsks();
        fullBook();
        suspendedTenant();
        withdraws();
        Check.end();
    }

    private static CreditExchange exchange() {
        return Check.of("L050050209t050000000t040001000");
    }

    private static void wrongArguments() {
        CreditExchange x = exchange();
        for (int v : NOT_TWO_DIGITS) {
            Check.refuses("bid(1, " + v + ", 1)", Check.ARGUMENT, x, () -> x.bid(1, v, 1));
            Check.refuses("bid(1, 1, " + v + ")", Check.ARGUMENT, x, () -> x.bid(1, 1, v));
            Check.refuses("ask(1, " + v + ", 1)", Check.ARGUMENT, x, () -> x.ask(1, v, 1));
            Check.refuses("ask(1, 1, " + v + ")", Check.ARGUMENT, x, () -> x.ask(1, 1, v));
            Check.refuses("askShort(1, " + v + ", 1)", Check.ARGUMENT, x, () -> x.askShort(1, v, 1));
            Check.refuses("askShort(1, 1, " + v + ")", Check.ARGUMENT, x, () -> x.askShort(1, 1, v));
        }
        for (int t : NO_TENANT) {
            Check.refuses("bid(" + t + ", 0, 0)", Check.INDEX, x, () -> x.bid(t, 0, 0));
            Check.refuses("ask(" + t + ", 0, 0)", Check.INDEX, x, () -> x.ask(t, 0, 0));
            Check.refuses("askShort(" + t + ", 0, 0)", Check.INDEX, x, () -> x.askShort(t, 0, 0));
        }
        Check.refuses("a refused call is no action", Check.STATE, x, () -> x.undo());
    }

    private static void bids() {
        CreditExchange x = exchange();
        Check.refuses("bid without cash", Check.STATE, x, () -> x.bid(0, 1, 1));
        Check.is("bid", x.bid(1, 10, 30), 0);
        Check.is("cash", x.tenant(1, 4), 700);
        Check.is("cash set aside", x.tenant(1, 6), 300);
        Check.refuses("bid for 701", Check.STATE, x, () -> x.bid(1, 99, 8));
        Check.is("bid for all cash", x.bid(1, 70, 10), 1);
        Check.is("no cash left", x.tenant(1, 4), 0);
        Check.is("all set aside", x.tenant(1, 6), 1000);
        Check.is("the book", Check.book(x), "1,0,10,30,0;1,0,70,10,0;");
        Check.is("both are actions", x.undo(), 1);
    }

    private static void asks() {
        CreditExchange x = exchange();
        Check.refuses("ask for more than the credits", Check.STATE, x, () -> x.ask(0, 5, 51));
        Check.is("ask", x.ask(0, 5, 20), 0);
        Check.is("level", x.tenant(0, 2), 30);
        Check.is("credits set aside", x.tenant(0, 5), 20);
        x.withdraw(0);
        Check.is("stock", x.tenant(0, 3), 20);
        Check.is("ask again", x.ask(0, 99, 24), 0);
        Check.is("the stock was taken first", x.tenant(0, 3), 0);
        Check.is("then the bucket", x.tenant(0, 2), 26);
        Check.refuses("ask for 27 of 26", Check.STATE, x, () -> x.ask(0, 1, 27));
        Check.is("ask for all", x.ask(0, 1, 26), 1);
        Check.is("level 0", x.tenant(0, 2), 0);
        Check.is("all set aside", x.tenant(0, 5), 50);
        Check.is("all four are actions", x.undo(), 3);
    }

    private static void shortAsks() {
        CreditExchange x = exchange();
        Check.is("askShort", x.askShort(0, 5, 60), 0);
        Check.is("nothing is set aside", x.tenant(0, 5), 0);
        Check.is("nothing is taken", x.tenant(0, 2), 50);
        Check.refuses("60 + 40 is too much", Check.STATE, x, () -> x.askShort(0, 5, 40));
        Check.is("another tenant", x.askShort(1, 9, 99), 1);
        Check.is("60 + 39", x.askShort(0, 7, 39), 2);
        Check.refuses("one more", Check.STATE, x, () -> x.askShort(0, 7, 1));
        x.withdraw(1);
        x.bid(1, 5, 20);
        x.tick(5);
        Check.is("20 of it are debts now", x.tenant(0, 7), 20);
        Check.refuses("debts count too", Check.STATE, x, () -> x.askShort(0, 7, 1));
        x.withdraw(1);
        Check.is("20 + 40 + 39", x.askShort(0, 8, 39), 1);
        Check.is("credits do not matter", x.ask(0, 9, 50), 2);
    }

    private static void fullBook() {
        CreditExchange x = exchange();
        for (int k = 0; k < 12; k++) {
            Check.is("order " + k, x.askShort(0, 50 + k, 1), k);
        }
        Check.refuses("bid into a full book", Check.STATE, x, () -> x.bid(1, 1, 1));
        Check.refuses("ask into a full book", Check.STATE, x, () -> x.ask(1, 1, 1));
        Check.refuses("askShort into a full book", Check.STATE, x, () -> x.askShort(1, 1, 1));
        Check.refuses("a wrong price comes first", Check.ARGUMENT, x, () -> x.bid(1, 0, 1));
        Check.refuses("a wrong tenant comes first", Check.INDEX, x, () -> x.bid(2, 0, 1));
        x.withdraw(5);
        Check.is("room again", x.bid(1, 1, 1), 11);
        Check.is("the place of the withdrawn one", x.order(5, 2), 56);
    }

    private static void suspendedTenant() {
        CreditExchange x = Check.of("L050010299t001000000t001000900");
        x.askShort(0, 20, 5);
        x.bid(1, 20, 5);
        x.tick(3);
        Check.is("suspended until", x.tenant(0, 11), 7);
        x.deposit(0, 500);
        Check.refuses("bid while suspended", Check.STATE, x, () -> x.bid(0, 1, 1));
        Check.refuses("askShort while suspended", Check.STATE, x, () -> x.askShort(0, 1, 1));
        x.setRate(0, 1);
        x.tick(3);
        Check.is("no credits while suspended", x.tenant(0, 2), 0);
        Check.refuses("ask while suspended", Check.STATE, x, () -> x.ask(0, 1, 1));
        x.tick(1);
        Check.is("ask when it is over", x.ask(0, 1, 1), 0);
        Check.is("bid when it is over", x.bid(0, 1, 1), 1);
        Check.is("askShort when it is over", x.askShort(0, 1, 1), 2);
    }

    private static void withdraws() {
        CreditExchange x = exchange();
        Check.refuses("withdraw from an empty book", Check.INDEX, x, () -> x.withdraw(0));
        x.bid(1, 10, 30);
        x.ask(0, 10, 18);
        x.askShort(0, 40, 7);
        x.tick(5);
        Check.is("the book after the auction", Check.book(x), "1,0,10,12,0;0,2,40,7,0;");
        for (int i : new int[] {-1, 2, 12, Integer.MIN_VALUE, Integer.MAX_VALUE}) {
            Check.refuses("withdraw(" + i + ")", Check.INDEX, x, () -> x.withdraw(i));
        }
        Check.is("withdraw what is left of a bid", x.withdraw(0), 12);
        Check.is("its cash returns", x.tenant(1, 4), 820);
        Check.is("nothing is set aside", x.tenant(1, 6), 0);
        Check.is("the other order moves up", Check.book(x), "0,2,40,7,0;");
        String before = Check.tenant(x, 0);
        Check.is("withdraw a short ask", x.withdraw(0), 7);
        Check.is("nothing returns", Check.tenant(x, 0), before);
        Check.is("an action", x.undo(), 5);
        Check.is("the order is back", Check.book(x), "0,2,40,7,0;");
        x.ask(0, 60, 32);
        x.withdraw(1);
        Check.is("credits return to the stock", x.tenant(0, 3), 32);
        Check.is("not to the bucket", x.tenant(0, 2), 0);
    }
}
