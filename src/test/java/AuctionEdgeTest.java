/** The boundary cases of the section AUCTIONS and of promises 20 to 25, each with the sentence that names it. */
public final class AuctionEdgeTest {
    private static final String LINK = "L050010305";
    private static final int[] NOT_TWO_DIGITS = {0, 100, -1, Integer.MIN_VALUE, Integer.MAX_VALUE};

    public static void main(String[] args) {
        bidsAtOnePrice();
        asksAtOnePrice();
        asksOfBothKinds();
        priceOfTheBidAtLeastThatOfTheAsk();
        smallerOneIsMatched();
        followedByTheNext();
        sameTenant();
        priceRoundedDown();
        pricesAtTheEnds();
        pairMatchedLast();
        differenceReturns();
        quantityZeroIsRemoved();
        settledInOrder();
        emptyBook();
        bidsAlone();
        asksAlone();
        greatestAuction();
        demandAtTheEnds();
        supplyAtTheEnds();
        fullDemandAndSupply();
        numbersOfAnAuction();
        volumeIfArguments();
        volumeIfAtTheEnds();
        volumeIfTheYoungest();
        volumeIfNothingMatters();
        priceForArguments();
        priceForAtTheEnds();
        priceForQuantities();
        priceForTheYoungest();
        priceForAFullBook();
        shareOfNothing();
        shareOfOneTenant();
        shareInLowestTerms();
        shareOfTenantsOutOfRange();
        Check.end();
    }

    /** Tenant 0 has credits, tenant 1 cash. */
    private static CreditExchange market() {
        return Check.of(LINK + "t999000000t001009999");
    }

    private static void fills(String what, CreditExchange x, int... dues) {
        for (int i = 0; i < dues.length; i++) {
            Check.is(what + ": fill of order " + i, x.order(i, 4), dues[i]);
        }
    }

    /** "among bids with equal prices, the older order comes first" */
    private static void bidsAtOnePrice() {
        CreditExchange x = market();
        x.bid(1, 10, 5);
        x.bid(1, 11, 5);
        x.bid(1, 10, 5);
        x.bid(1, 11, 5);
        x.ask(0, 1, 16);
        fills("bids", x, 5, 5, 1, 5, 16);
    }

    /** "otherwise .. the older order comes first": asks of one kind */
    private static void asksAtOnePrice() {
        CreditExchange x = market();
        x.ask(0, 11, 5);
        x.ask(0, 10, 5);
        x.ask(0, 11, 5);
        x.ask(0, 10, 5);
        x.bid(1, 50, 16);
        fills("asks", x, 5, 5, 1, 5, 16);
        CreditExchange y = market();
        y.askShort(0, 11, 5);
        y.askShort(0, 10, 5);
        y.askShort(0, 11, 5);
        y.bid(1, 50, 11);
        fills("short asks", y, 5, 5, 1, 11);
    }

    /** "of asks with equal prices, those of kind 1 come before those of kind 2" */
    private static void asksOfBothKinds() {
        CreditExchange x = market();
        x.askShort(0, 10, 5);
        x.ask(0, 10, 5);
        x.askShort(0, 9, 5);
        x.ask(0, 11, 5);
        x.bid(1, 50, 11);
        fills("both kinds", x, 1, 5, 5, 0, 11);
    }

    /** "the price of the bid is at least that of the ask" */
    private static void priceOfTheBidAtLeastThatOfTheAsk() {
        for (int price = 9; price <= 11; price++) {
            CreditExchange x = market();
            x.ask(0, 10, 5);
            x.bid(1, price, 5);
            Check.is("a bid of " + price + " for an ask of 10", x.auction(0), price < 10 ? 0 : 5);
            CreditExchange y = market();
            y.bid(1, price, 5);
            y.askShort(0, 10, 5);
            Check.is("a bid of " + price + " for a short ask of 10", y.auction(0), price < 10 ? 0 : 5);
        }
    }

    /** "the smaller one of what is left of both is matched" */
    private static void smallerOneIsMatched() {
        for (int quantity = 4; quantity <= 6; quantity++) {
            CreditExchange x = market();
            x.ask(0, 10, 5);
            x.bid(1, 10, quantity);
            Check.is("a bid for " + quantity + " of 5", x.auction(0), Math.min(5, quantity));
            Check.is("removed", x.auction(3), quantity == 5 ? 2 : 1);
        }
    }

    /** "an order of which nothing is left is followed by the next one": also both at once */
    private static void followedByTheNext() {
        CreditExchange x = market();
        x.ask(0, 10, 5);
        x.ask(0, 20, 4);
        x.bid(1, 30, 5);
        x.bid(1, 25, 3);
        fills("both at once", x, 5, 3, 5, 3);
        Check.is("the price of the second pair", x.auction(1), 22);
        CreditExchange y = market();
        y.ask(0, 10, 5);
        y.ask(0, 20, 4);
        y.bid(1, 30, 5);
        y.bid(1, 19, 3);
        fills("the second pair does not match", y, 5, 0, 5, 0);
        Check.is("the price of the first pair", y.auction(1), 20);
    }

    /** "(Orders of the same tenant are matched like others.)" */
    private static void sameTenant() {
        CreditExchange x = Check.of(LINK + "t010000100");
        x.ask(0, 10, 5);
        x.bid(0, 10, 5);
        Check.is("volume", x.auction(0), 5);
        x.tick(1);
        Check.is("from the bucket to the stock", Check.tenant(x, 0), "10,0,5,5,100,0,0,0,-9,0,0,-9");
    }

    private static int priceOf(int bid, int ask) {
        CreditExchange x = market();
        x.ask(0, ask, 1);
        x.bid(1, bid, 1);
        int price = x.auction(1);
        x.tick(1);
        Check.is("the price of the last auction", x.about(7), price);
        return price;
    }

    /** "half the sum of the prices .., rounded down" */
    private static void priceRoundedDown() {
        Check.is("10 and 10", priceOf(10, 10), 10);
        Check.is("11 and 10", priceOf(11, 10), 10);
        Check.is("12 and 10", priceOf(12, 10), 11);
        Check.is("12 and 11", priceOf(12, 11), 11);
    }

    /** "a price from 1 to 99": the smallest and the greatest price of an auction */
    private static void pricesAtTheEnds() {
        Check.is("1 and 1", priceOf(1, 1), 1);
        Check.is("2 and 1", priceOf(2, 1), 1);
        Check.is("99 and 1", priceOf(99, 1), 50);
        Check.is("99 and 98", priceOf(99, 98), 98);
        Check.is("99 and 99", priceOf(99, 99), 99);
    }

    /** "of the bid and the ask that were matched last" */
    private static void pairMatchedLast() {
        CreditExchange x = market();
        x.bid(1, 40, 1);
        x.bid(1, 30, 1);
        x.ask(0, 20, 1);
        x.ask(0, 30, 1);
        Check.is("30 and 30", x.auction(1), 30);
        Check.is("40 - 20 + 30 - 30", x.auction(2), 20);
        x.withdraw(3);
        Check.is("40 and 20", x.auction(1), 30);
        x.ask(0, 31, 1);
        Check.is("31 is matched no more", x.auction(1), 30);
        Check.is("volume", x.auction(0), 1);
    }

    /** "the tenant pays (price of the auction) times fill, and the difference returns to its cash" */
    private static void differenceReturns() {
        // price of the bid, then the cash of 9999 after 5 were bought from an ask of 10
        int[][] rows = {{10, 9999 - 50}, {11, 9999 - 50}, {12, 9999 - 55}, {99, 9999 - 5 * 54}};
        for (int[] row : rows) {
            CreditExchange x = market();
            x.ask(0, 10, 5);
            x.bid(1, row[0], 5);
            x.tick(1);
            Check.is("the buyer's cash, bid " + row[0], x.tenant(1, 4), row[1]);
            Check.is("the seller's cash, bid " + row[0], x.tenant(0, 4), 9999 - row[1]);
            Check.is("the buyer's stock", x.tenant(1, 3), 5);
            Check.is("nothing is set aside", x.tenant(1, 6) + x.tenant(0, 5), 0);
        }
    }

    /** "an order whose quantity is 0 then is removed from the book" */
    private static void quantityZeroIsRemoved() {
        CreditExchange x = market();
        x.ask(0, 10, 5);
        x.ask(0, 10, 5);
        x.bid(1, 10, 9);
        Check.is("two would be removed", x.auction(3), 2);
        x.tick(1);
        Check.is("one credit is left", Check.book(x), "0,1,10,1,0;");
        CreditExchange y = market();
        for (int k = 0; k < 6; k++) {
            y.ask(0, 10, 5);
            y.bid(1, 10, 5);
        }
        Check.is("all would be removed", y.auction(3), 12);
        y.tick(1);
        Check.is("a full book becomes empty", y.about(8), 0);
    }

    /** "Then the orders with a fill are settled": the others stay as they are */
    private static void settledInOrder() {
        CreditExchange x = Check.of(LINK + "t050000000t050000100");
        x.bid(1, 9, 1);
        x.ask(0, 10, 2);
        x.askShort(0, 10, 3);
        x.bid(1, 10, 4);
        x.ask(0, 11, 5);
        x.tick(1);
        Check.is("the book", Check.book(x), "1,0,9,1,0;0,2,10,1,0;0,1,11,5,0;");
        Check.is("the seller", Check.tenant(x, 0), "50,0,43,0,40,5,0,2,4,0,0,-9");
        Check.is("the buyer", Check.tenant(x, 1), "50,0,50,4,51,0,9,0,-9,0,0,-9");
    }

    private static void numbers(String what, CreditExchange x, int... dues) {
        for (int k = 0; k < 4; k++) {
            Check.is(what + ": auction(" + k + ")", x.auction(k), dues[k]);
        }
    }

    /** "its price (NONE if the volume is 0)": the empty book */
    private static void emptyBook() {
        numbers("an empty book", market(), 0, Check.NONE, 0, 0);
        numbers("a new object", new CreditExchange(), 0, Check.NONE, 0, 0);
    }

    /** "as long as there are a bid and an ask": no ask */
    private static void bidsAlone() {
        CreditExchange x = market();
        x.bid(1, 99, 99);
        numbers("bids alone", x, 0, Check.NONE, 0, 0);
    }

    /** "as long as there are a bid and an ask": no bid */
    private static void asksAlone() {
        CreditExchange x = market();
        x.ask(0, 1, 99);
        x.askShort(0, 1, 99);
        numbers("asks alone", x, 0, Check.NONE, 0, 0);
    }

    /** "at most 12 orders", "a price from 1 to 99 and a quantity, 1 to 99": the greatest volume and surplus */
    private static void greatestAuction() {
        CreditExchange x = Check.of(LINK + "t001009801".repeat(6));
        for (int t = 0; t < 6; t++) {
            x.bid(t, 99, 99);
            x.askShort(t, 1, 99);
        }
        numbers("all", x, 594, 50, 594 * 98, 12);
        for (int t = 0; t < 6; t++) {
            Check.is("share of tenant " + t, x.share(t, true), 99 * 98);
            Check.is("share of tenant " + t + ", lower", x.share(t, false), 1);
        }
        x.tick(1);
        for (int t = 0; t < 6; t++) {
            Check.is("tenant " + t, Check.tenant(x, t), "1,0,1,99,9801,0,0,99,4,0,0,-9");
        }
    }

    /** "all bids with at least this price", "price: 1 to 99" */
    private static void demandAtTheEnds() {
        CreditExchange x = market();
        x.bid(1, 1, 5);
        x.bid(1, 50, 7);
        x.bid(1, 99, 9);
        int[][] rows = {{1, 21}, {2, 16}, {50, 16}, {51, 9}, {98, 9}, {99, 9}};
        for (int[] row : rows) {
            Check.is("demand(" + row[0] + ")", x.demand(row[0]), row[1]);
            Check.is("supply(" + row[0] + ")", x.supply(row[0]), 0);
        }
        for (int price : NOT_TWO_DIGITS) {
            Check.refuses("demand(" + price + ")", Check.ARGUMENT, x, () -> x.demand(price));
        }
    }

    /** "all asks (of both kinds) with at most this price", "price: 1 to 99" */
    private static void supplyAtTheEnds() {
        CreditExchange x = market();
        x.ask(0, 1, 5);
        x.askShort(0, 50, 7);
        x.ask(0, 99, 9);
        int[][] rows = {{1, 5}, {2, 5}, {49, 5}, {50, 12}, {98, 12}, {99, 21}};
        for (int[] row : rows) {
            Check.is("supply(" + row[0] + ")", x.supply(row[0]), row[1]);
            Check.is("demand(" + row[0] + ")", x.demand(row[0]), 0);
        }
        for (int price : NOT_TWO_DIGITS) {
            Check.refuses("supply(" + price + ")", Check.ARGUMENT, x, () -> x.supply(price));
        }
    }

    /** "the sum of the quantities": of a full book */
    private static void fullDemandAndSupply() {
        CreditExchange x = Check.of(LINK + "t099000000".repeat(6));
        CreditExchange y = Check.of(LINK + "t001009999");
        for (int k = 0; k < 6; k++) {
            x.ask(k, 9, 99);
            x.askShort(k, 9, 99);
            y.bid(0, 8, 99);
            y.bid(0, 8, 99);
        }
        Check.is("supply", x.supply(9), 12 * 99);
        Check.is("no supply", x.supply(8), 0);
        Check.is("demand", y.demand(8), 12 * 99);
        Check.is("no demand", y.demand(9), 0);
    }

    /** "IllegalArgumentException if what is not 0 to 3" */
    private static void numbersOfAnAuction() {
        CreditExchange x = market();
        x.ask(0, 10, 6);
        x.bid(1, 13, 5);
        numbers("a trade", x, 5, 11, 15, 1);
        for (int what : new int[] {-1, 4, Integer.MIN_VALUE, Integer.MAX_VALUE}) {
            Check.refuses("auction(" + what + ")", Check.ARGUMENT, x, () -> x.auction(what));
        }
    }

    /** "IndexOutOfBoundsException if there is no such tenant", "if another argument is out of range" */
    private static void volumeIfArguments() {
        CreditExchange x = market();
        for (int v : NOT_TWO_DIGITS) {
            Check.refuses("price " + v, Check.ARGUMENT, x, () -> x.volumeIf(1, 0, v, 1));
            Check.refuses("quantity " + v, Check.ARGUMENT, x, () -> x.volumeIf(1, 0, 1, v));
        }
        for (int v : new int[] {-1, 3, Integer.MIN_VALUE, Integer.MAX_VALUE}) {
            Check.refuses("kind " + v, Check.ARGUMENT, x, () -> x.volumeIf(1, v, 1, 1));
        }
        for (int v : new int[] {-1, 2, Integer.MIN_VALUE, Integer.MAX_VALUE}) {
            Check.refuses("tenant " + v, Check.INDEX, x, () -> x.volumeIf(v, 0, 1, 1));
            Check.refuses("tenant " + v + " comes first", Check.INDEX, x, () -> x.volumeIf(v, 3, 0, 100));
        }
    }

    /** "kind: 0 to 2", "price: 1 to 99", "quantity: 1 to 99" */
    private static void volumeIfAtTheEnds() {
        CreditExchange x = market();
        x.ask(0, 50, 99);
        x.bid(1, 49, 99);
        int[][] rows = {{0, 49, 99, 0}, {0, 50, 1, 1}, {0, 50, 99, 99}, {0, 99, 99, 99}, {0, 1, 99, 0},
            {1, 50, 99, 0}, {1, 49, 1, 1}, {1, 49, 99, 99}, {1, 1, 99, 99}, {1, 99, 99, 0},
            {2, 50, 99, 0}, {2, 49, 1, 1}, {2, 49, 99, 99}, {2, 1, 99, 99}, {2, 99, 99, 0}};
        for (int[] row : rows) {
            for (int t = 0; t < 2; t++) {
                Check.is("volumeIf(" + t + ", " + row[0] + ", " + row[1] + ", " + row[2] + ")",
                        x.volumeIf(t, row[0], row[1], row[2]), row[3]);
            }
        }
    }

    /** "one more order, the youngest one": it comes after others, and the order of matching may change the volume */
    private static void volumeIfTheYoungest() {
        CreditExchange x = market();
        x.ask(0, 10, 5);
        x.ask(0, 20, 5);
        x.bid(1, 20, 5);
        x.bid(1, 10, 5);
        // alone, the bid of 20 takes the ask of 10, and nothing else matches
        Check.is("volume", x.auction(0), 5);
        Check.is("an ask of 1 for the bid of 20: the bid of 10 gets the other one", x.volumeIf(0, 1, 1, 5), 10);
        Check.is("a bid of 99 takes the ask of 10", x.volumeIf(1, 0, 99, 5), 10);
        Check.is("a bid of 20", x.volumeIf(1, 0, 20, 5), 10);
        Check.is("a bid of 19", x.volumeIf(1, 0, 19, 5), 5);
    }

    /** "(Cash, credits, debts and suspension of its tenant and the length of the book do not matter.)" */
    private static void volumeIfNothingMatters() {
        CreditExchange x = Check.suspended();
        Check.is("suspended until", x.tenant(0, 11), 4);
        for (int k = 0; k < 6; k++) {
            x.bid(1, 10, 2);
            x.askShort(1, 20, 3);
        }
        Check.is("a bid without cash, of a suspended one, into a full book", x.volumeIf(0, 0, 20, 99), 18);
        Check.is("an ask without credits", x.volumeIf(0, 1, 10, 99), 12);
        Check.is("a short ask", x.volumeIf(0, 2, 10, 99), 12);
        Check.is("short asks of 18 and 99 more", x.volumeIf(1, 2, 10, 99), 12);
    }

    /** "IllegalArgumentException if quantity is out of range" */
    private static void priceForArguments() {
        CreditExchange x = market();
        x.ask(0, 10, 99);
        Check.is("priceFor(1)", x.priceFor(1), 10);
        Check.is("priceFor(99)", x.priceFor(99), 10);
        for (int v : NOT_TWO_DIGITS) {
            Check.refuses("priceFor(" + v + ")", Check.ARGUMENT, x, () -> x.priceFor(v));
        }
    }

    /** "Returns the price, 1 to 99; NONE if there is none." */
    private static void priceForAtTheEnds() {
        for (int price : new int[] {1, 2, 98, 99}) {
            CreditExchange x = market();
            Check.is("an empty book", x.priceFor(1), Check.NONE);
            x.ask(0, price, 1);
            Check.is("an ask of " + price, x.priceFor(1), price);
            Check.is("two", x.priceFor(2), Check.NONE);
        }
    }

    /** "with which its fill would be its whole quantity" */
    private static void priceForQuantities() {
        CreditExchange x = market();
        x.ask(0, 10, 5);
        x.askShort(0, 20, 5);
        Check.is("5", x.priceFor(5), 10);
        Check.is("6", x.priceFor(6), 20);
        Check.is("10", x.priceFor(10), 20);
        Check.is("11", x.priceFor(11), Check.NONE);
    }

    /** "one more order, the youngest one, a bid": older bids of the same price come before it */
    private static void priceForTheYoungest() {
        CreditExchange x = market();
        x.ask(0, 10, 5);
        x.bid(1, 30, 3);
        Check.is("what is left", x.priceFor(2), 10);
        Check.is("more than is left at 30", x.priceFor(3), 31);
        x.bid(1, 98, 1);
        Check.is("more than is left at 98", x.priceFor(5), 99);
        x.bid(1, 99, 1);
        Check.is("nobody comes before a bid of 99", x.priceFor(5), Check.NONE);
        Check.is("but before one of 98", x.priceFor(4), 99);
    }

    /** "(Cash and the length of the book do not matter.)" */
    private static void priceForAFullBook() {
        CreditExchange x = Check.of(LINK + "t012000000");
        for (int k = 0; k < 12; k++) {
            x.ask(0, 10 + k, 1);
        }
        for (int k = 0; k < 12; k++) {
            Check.is("priceFor(" + (k + 1) + ")", x.priceFor(k + 1), 10 + k);
        }
        Check.is("priceFor(13)", x.priceFor(13), Check.NONE);
    }

    private static void share(String what, CreditExchange x, int t, int upper, int lower) {
        Check.is(what + ": numerator of tenant " + t, x.share(t, true), upper);
        Check.is(what + ": denominator of tenant " + t, x.share(t, false), lower);
    }

    /** "(the denominator is positive; 0 is 0 / 1)" */
    private static void shareOfNothing() {
        for (int count = 1; count <= 6; count++) {
            CreditExchange x = Check.of(LINK + "t050000900".repeat(count));
            for (int t = 0; t < count; t++) {
                share("an empty book", x, t, 0, 1);
            }
            x.ask(0, 10, 5);
            x.bid(count - 1, 10, 5);
            Check.is("volume", x.auction(0), 5);
            for (int t = 0; t < count; t++) {
                share("a surplus of 0", x, t, 0, 1);
            }
        }
    }

    /** "the tenants come one after the other": one alone has the whole surplus */
    private static void shareOfOneTenant() {
        CreditExchange x = Check.of(LINK + "t050000900");
        x.ask(0, 10, 7);
        x.bid(0, 11, 7);
        share("one tenant", x, 0, 7, 1);
        CreditExchange y = Check.of(LINK + "t050000900".repeat(6));
        y.ask(5, 10, 7);
        y.bid(5, 11, 7);
        share("one of six", y, 5, 7, 1);
        share("another one of six", y, 0, 0, 1);
    }

    /** "in lowest terms" */
    private static void shareInLowestTerms() {
        CreditExchange x = Check.of(LINK + "t050000900t050000900");
        x.ask(0, 10, 1);
        x.bid(1, 11, 1);
        share("1 / 2", x, 0, 1, 2);
        share("1 / 2", x, 1, 1, 2);
        x.withdraw(1);
        x.bid(1, 12, 1);
        share("2 / 2", x, 0, 1, 1);
        CreditExchange y = Check.of(LINK + "t050000900".repeat(3));
        y.ask(0, 10, 1);
        y.bid(1, 11, 1);
        y.bid(2, 11, 1);
        // the seller brings 1 unless it comes first: 2/3; a buyer only directly behind the seller: 1/6
        share("4 / 6", y, 0, 2, 3);
        share("1 / 6", y, 1, 1, 6);
        share("1 / 6", y, 2, 1, 6);
    }

    /** "IndexOutOfBoundsException if there is no such tenant" */
    private static void shareOfTenantsOutOfRange() {
        for (int count : new int[] {1, 6}) {
            CreditExchange x = Check.of(LINK + "t050000900".repeat(count));
            share("the last one", x, count - 1, 0, 1);
            for (int t : new int[] {-1, count, 6, 31, 32, Integer.MIN_VALUE, Integer.MAX_VALUE}) {
                Check.refuses("share(" + t + ", true)", Check.INDEX, x, () -> x.share(t, true));
                Check.refuses("share(" + t + ", false)", Check.INDEX, x, () -> x.share(t, false));
            }
        }
    }
}
