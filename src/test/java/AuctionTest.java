/** Promises 20 to 25: demand, supply, auction, volumeIf, priceFor, share. */
public final class AuctionTest {
    private static final int[] NOT_TWO_DIGITS = {0, -1, 100, Integer.MIN_VALUE, Integer.MAX_VALUE};

    public static void main(String[] args) {
        refuses();
        emptyBook();
        demandAndSupply();
        rankingOfBids();
        rankingOfAsks();
        auctionNumbers();
        oneMoreOrder();
        pricesForQuantities();
        oneMoreThanAFullBook();
        shares();
        sharesOfSix();
        changesNothing();
        Check.end();
    }

    /** Four tenants; 0 and 1 ask, 2 and 3 bid. */
    private static CreditExchange market() {
        CreditExchange x = Check.of("L030050300t060000000t060000000t001005000t001005000");
        x.ask(0, 10, 20);
        x.bid(2, 30, 12);
        x.askShort(1, 20, 15);
        x.bid(3, 20, 10);
        x.bid(2, 15, 9);
        x.ask(1, 25, 5);
        return x;
    }

    private static void refuses() {
        CreditExchange x = market();
        for (int v : NOT_TWO_DIGITS) {
            Check.refuses("demand(" + v + ")", Check.ARGUMENT, x, () -> x.demand(v));
            Check.refuses("supply(" + v + ")", Check.ARGUMENT, x, () -> x.supply(v));
            Check.refuses("priceFor(" + v + ")", Check.ARGUMENT, x, () -> x.priceFor(v));
            Check.refuses("volumeIf(0, 0, " + v + ", 1)", Check.ARGUMENT, x, () -> x.volumeIf(0, 0, v, 1));
            Check.refuses("volumeIf(0, 0, 1, " + v + ")", Check.ARGUMENT, x, () -> x.volumeIf(0, 0, 1, v));
            Check.refuses("volumeIf(4, 0, 1, " + v + ")", Check.INDEX, x, () -> x.volumeIf(4, 0, 1, v));
        }
        for (int v : new int[] {-1, 4, Integer.MIN_VALUE, Integer.MAX_VALUE}) {
            Check.refuses("auction(" + v + ")", Check.ARGUMENT, x, () -> x.auction(v));
            Check.refuses("volumeIf(" + v + ", 3, 1, 1)", Check.INDEX, x, () -> x.volumeIf(v, 3, 1, 1));
            Check.refuses("share(" + v + ", true)", Check.INDEX, x, () -> x.share(v, true));
            Check.refuses("share(" + v + ", false)", Check.INDEX, x, () -> x.share(v, false));
        }
        for (int v : new int[] {-1, 3, Integer.MIN_VALUE, Integer.MAX_VALUE}) {
            Check.refuses("volumeIf(0, " + v + ", 1, 1)", Check.ARGUMENT, x, () -> x.volumeIf(0, v, 1, 1));
        }
    }

    private static void emptyBook() {
        CreditExchange x = new CreditExchange();
        Check.is("demand", x.demand(1), 0);
        Check.is("supply", x.supply(99), 0);
        Check.is("volume", x.auction(0), 0);
        Check.is("price", x.auction(1), -9);
        Check.is("surplus", x.auction(2), 0);
        Check.is("removed", x.auction(3), 0);
        Check.is("volumeIf", x.volumeIf(0, 0, 99, 99), 0);
        Check.is("priceFor", x.priceFor(1), -9);
        Check.is("share, upper", x.share(0, true), 0);
        Check.is("share, lower", x.share(0, false), 1);
    }

    private static void demandAndSupply() {
        CreditExchange x = market();
        Check.is("demand(1)", x.demand(1), 31);
        Check.is("demand(15)", x.demand(15), 31);
        Check.is("demand(16)", x.demand(16), 22);
        Check.is("demand(20)", x.demand(20), 22);
        Check.is("demand(21)", x.demand(21), 12);
        Check.is("demand(30)", x.demand(30), 12);
        Check.is("demand(31)", x.demand(31), 0);
        Check.is("demand(99)", x.demand(99), 0);
        Check.is("supply(1)", x.supply(1), 0);
        Check.is("supply(9)", x.supply(9), 0);
        Check.is("supply(10)", x.supply(10), 20);
        Check.is("supply(19)", x.supply(19), 20);
        Check.is("supply(20)", x.supply(20), 35);
        Check.is("supply(24)", x.supply(24), 35);
        Check.is("supply(25)", x.supply(25), 40);
        Check.is("supply(99)", x.supply(99), 40);
    }

    private static void rankingOfBids() {
        CreditExchange x = Check.of("L030050300t060000000t060009999");
        x.bid(1, 20, 5);
        x.bid(1, 30, 5);
        x.bid(1, 20, 5);
        x.bid(1, 30, 5);
        x.ask(0, 20, 13);
        Check.is("greater prices first, then older ones", Check.book(x),
                "1,0,20,5,3;1,0,30,5,5;1,0,20,5,0;1,0,30,5,5;0,1,20,13,13;");
    }

    private static void rankingOfAsks() {
        CreditExchange x = Check.of("L030050300t060000000t060009999");
        x.askShort(0, 20, 5);
        x.ask(0, 20, 5);
        x.askShort(0, 20, 5);
        x.ask(0, 20, 5);
        x.askShort(0, 19, 5);
        x.ask(0, 21, 5);
        x.bid(1, 50, 18);
        Check.is("smaller prices first, then kind 1, then older ones", Check.book(x),
                "0,2,20,5,3;0,1,20,5,5;0,2,20,5,0;0,1,20,5,5;0,2,19,5,5;0,1,21,5,0;1,0,50,18,18;");
        Check.is("the price is that of the last two", x.auction(1), 35);
    }

    private static void auctionNumbers() {
        CreditExchange x = market();
        // bid 30: 12 of ask 10; bid 20: 8 of ask 10 and 2 of ask 20; bid 15 is below 20
        Check.is("volume", x.auction(0), 22);
        Check.is("price", x.auction(1), 20);
        Check.is("surplus", x.auction(2), 12 * 30 + 10 * 20 - 20 * 10 - 2 * 20);
        Check.is("removed", x.auction(3), 3);
        Check.is("fills", Check.book(x), "0,1,10,20,20;2,0,30,12,12;1,2,20,15,2;3,0,20,10,10;2,0,15,9,0;1,1,25,5,0;");
        CreditExchange y = Check.of("L030050300t060000000t060009999");
        y.ask(0, 10, 5);
        y.bid(1, 9, 5);
        Check.is("9 is below 10", y.auction(0), 0);
        Check.is("no price", y.auction(1), -9);
        y.bid(1, 13, 1);
        Check.is("half of 10 + 13, rounded down", y.auction(1), 11);
        Check.is("one is removed", y.auction(3), 1);
        y.bid(1, 10, 4);
        Check.is("at equal prices there is a match", y.auction(0), 5);
        Check.is("the last two count", y.auction(1), 10);
        Check.is("surplus of 3", y.auction(2), 3);
        Check.is("three are removed", y.auction(3), 3);
    }

    private static void oneMoreOrder() {
        CreditExchange x = market();
        Check.is("a bid of 19", x.volumeIf(0, 0, 19, 9), 22);
        Check.is("a bid of 20", x.volumeIf(0, 0, 20, 9), 31);
        Check.is("a bid of 20 for more than there is", x.volumeIf(0, 0, 20, 99), 35);
        Check.is("a bid of 99 for more than there is", x.volumeIf(0, 0, 99, 99), 40);
        Check.is("an ask at 1", x.volumeIf(3, 1, 1, 99), 31);
        Check.is("an ask at 15", x.volumeIf(3, 1, 15, 5), 25);
        Check.is("a short ask at 15", x.volumeIf(3, 2, 15, 5), 25);
        Check.is("a short ask at 16", x.volumeIf(3, 2, 16, 5), 22);
        Check.is("fewer of the dear asks", x.volumeIf(2, 1, 16, 1), 22);
    }

    private static void pricesForQuantities() {
        CreditExchange x = market();
        // behind the bids of at least 20, 22 of the 35 up to 20 are gone
        Check.is("13 at 20", x.priceFor(13), 20);
        Check.is("14 at 21, where only the bid of 30 comes before", x.priceFor(14), 21);
        Check.is("23 at 21", x.priceFor(23), 21);
        Check.is("24 at 25", x.priceFor(24), 25);
        Check.is("28 at 25", x.priceFor(28), 25);
        Check.is("29 at 31", x.priceFor(29), 31);
        Check.is("40 at 31", x.priceFor(40), 31);
        Check.is("41 at no price", x.priceFor(41), -9);
        Check.is("1 at 20", x.priceFor(1), 20);
        CreditExchange y = Check.of("L030050300t060000000t060009999");
        y.ask(0, 1, 3);
        Check.is("the smallest price", y.priceFor(3), 1);
        y.bid(1, 99, 1);
        Check.is("the rest", y.priceFor(2), 1);
        Check.is("a bid of 99 is always before", y.priceFor(3), -9);
        CreditExchange z = Check.of("L030050300t060000000t060009999");
        z.ask(0, 99, 3);
        Check.is("the greatest price", z.priceFor(3), 99);
    }

    private static void oneMoreThanAFullBook() {
        CreditExchange x = Check.of("L030050300t060000000t060009999");
        for (int k = 0; k < 12; k++) {
            x.askShort(0, 50, 2);
        }
        Check.is("volumeIf does not mind", x.volumeIf(1, 0, 50, 99), 24);
        Check.is("priceFor does not mind", x.priceFor(24), 50);
        Check.is("nor the cash", x.volumeIf(0, 0, 99, 23), 23);
        Check.is("nor the debts", x.volumeIf(0, 2, 1, 99), 0);
    }

    private static void share(CreditExchange x, int t, int upper, int lower) {
        Check.is("share(" + t + ", true)", x.share(t, true), upper);
        Check.is("share(" + t + ", false)", x.share(t, false), lower);
    }

    private static void shares() {
        CreditExchange x = Check.of("L030050300t060000000t001005000t001005000");
        x.ask(0, 10, 10);
        x.bid(1, 15, 10);
        // alone together: 50; half of it each
        share(x, 0, 25, 1);
        share(x, 1, 25, 1);
        share(x, 2, 0, 1);
        x.bid(2, 13, 10);
        // v(01) = 50, v(02) = 30, v(012) = 50: 0 gets (50 + 30 + 50 + 50) / 6, 1 (50 + 20 + 20) / 6
        share(x, 0, 30, 1);
        share(x, 1, 15, 1);
        share(x, 2, 5, 1);
        x.withdraw(0);
        share(x, 0, 0, 1);
        CreditExchange y = Check.of("L030050300t060000500");
        y.ask(0, 10, 10);
        y.bid(0, 12, 7);
        share(y, 0, 14, 1);
    }

    private static void sharesOfSix() {
        CreditExchange x = Check.of("L030050300" + "t060000500".repeat(6));
        x.ask(5, 10, 1);
        for (int t = 0; t < 5; t++) {
            x.bid(t, 11, 1);
        }
        // one credit with a surplus of 1: tenant 5 gets it unless it comes first (5/6 of it), and a
        // bidder only if it comes directly after tenant 5, who comes first
        share(x, 5, 5, 6);
        for (int t = 0; t < 5; t++) {
            share(x, t, 1, 30);
        }
    }

    private static void changesNothing() {
        CreditExchange x = market();
        String before = Check.all(x);
        x.demand(20);
        x.supply(20);
        x.auction(0);
        x.volumeIf(0, 0, 99, 99);
        x.priceFor(9);
        x.share(1, true);
        Check.is("the state", Check.all(x), before);
        Check.is("no actions", x.undo(), 5);
    }
}
