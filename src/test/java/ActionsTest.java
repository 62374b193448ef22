/** Promises 14 to 19: push, deposit, tick, setRate, setWidth, undo. */
public final class ActionsTest {
    public static void main(String[] args) {
        pushes();
        deposits();
        ticksRefused();
        sendsInRounds();
        sendsWithinCreditsAndWidth();
        fillsBuckets();
        auctionsAtIntervals();
        settles();
        collectsFromCredits();
        collectsFromOrders();
        collectsPenalties();
        collectsTheLastCredit();
        collectsAfterTheLongestTerm();
        collectsSeveralDebts();
        suspendsAnew();
        collectsWithoutPenalty();
        setsRate();
        setsWidth();
        undoes();
        undoBringsAllBack();
        Check.end();
    }

    private static void pushes() {
        CreditExchange x = Check.of("L001050209t050000000t001000000m107");
        Check.is("push(0, 1)", x.push(0, 1), 1);
        Check.is("push(1, 99)", x.push(1, 99), 2);
        Check.is("the queue", Check.queue(x, 1), "7,99");
        for (int size : new int[] {0, -1, 100, Integer.MIN_VALUE, Integer.MAX_VALUE}) {
            Check.refuses("push(0, " + size + ")", Check.ARGUMENT, x, () -> x.push(0, size));
            Check.refuses("push(2, " + size + ")", Check.INDEX, x, () -> x.push(2, size));
        }
        Check.refuses("push(-1, 1)", Check.INDEX, x, () -> x.push(-1, 1));
        for (int k = 3; k <= 8; k++) {
            Check.is("push number " + k, x.push(1, k), k);
        }
        Check.refuses("push into a full queue", Check.STATE, x, () -> x.push(1, 1));
        Check.refuses("a wrong size comes first", Check.ARGUMENT, x, () -> x.push(1, 0));
        Check.is("the full queue", Check.queue(x, 1), "7,99,3,4,5,6,7,8");
        Check.is("undo", x.undo(), 7);
        Check.is("one message less", x.tenant(1, 9), 7);
    }

    private static void deposits() {
        CreditExchange x = Check.of("L001050209t050000000t001000042");
        Check.is("deposit(1, 1)", x.deposit(1, 1), 43);
        for (int k = 1; k <= 10; k++) {
            Check.is("deposit number " + k, x.deposit(0, 9999), 9999 * k);
        }
        Check.refuses("10 more than 99990", Check.STATE, x, () -> x.deposit(0, 10));
        Check.is("up to 99999", x.deposit(0, 9), 99999);
        Check.refuses("one more", Check.STATE, x, () -> x.deposit(0, 1));
        Check.is("cash that is set aside does not count", x.bid(0, 99, 99), 0);
        Check.is("so there is room", x.deposit(0, 9801), 99999);
        for (int amount : new int[] {0, -1, 10000, Integer.MIN_VALUE, Integer.MAX_VALUE}) {
            Check.refuses("deposit(0, " + amount + ")", Check.ARGUMENT, x, () -> x.deposit(0, amount));
            Check.refuses("deposit(2, " + amount + ")", Check.INDEX, x, () -> x.deposit(2, amount));
        }
        x.withdraw(0);
        Check.is("more by other ways", x.tenant(0, 4), 109800);
        Check.refuses("no deposit then", Check.STATE, x, () -> x.deposit(0, 1));
        Check.is("undo", x.undo(), 13);
    }

    private static void ticksRefused() {
        CreditExchange x = new CreditExchange();
        for (int n : new int[] {0, -1, 51, Integer.MIN_VALUE, Integer.MAX_VALUE}) {
            Check.refuses("tick(" + n + ")", Check.ARGUMENT, x, () -> x.tick(n));
        }
        Check.is("tick(50)", x.tick(50), 0);
        Check.is("the time", x.about(5), 50);
        Check.is("together they are one action", x.undo(), 0);
        Check.is("the time before", x.about(5), 0);
    }

    private static void sendsInRounds() {
        // width 30; at time 1 tenant 1 comes first, then 2, then 0
        CreditExchange x = Check.of("L030010100t099000000t099000000t099000000m009m002m105m106m207m203");
        Check.is("5 + 7 + 9, then 6 + 3", x.tick(1), 30);
        Check.is("what tenant 0 sent", x.tenant(0, 10), 9);
        Check.is("what tenant 1 sent", x.tenant(1, 10), 11);
        Check.is("what tenant 2 sent", x.tenant(2, 10), 10);
        Check.is("the last message waits", Check.queue(x, 0), "2");
        Check.is("bytes of the last tick", x.about(9), 30);
        Check.is("it is sent in the next tick", x.tick(1), 2);
        Check.is("two ticks are two actions", x.undo(), 1);
        // at time 3 tenant 0 comes first; then the link has room for one of the others
        CreditExchange y = Check.of("L010010100t099000000t099000000t099000000");
        y.tick(2);
        y.push(2, 6);
        y.push(1, 5);
        y.push(0, 4);
        Check.is("4 + 5", y.tick(1), 9);
        Check.is("tenant 2 waits", Check.queue(y, 2), "6");
        // a tenant sends a small message after another one could not send a large one
        CreditExchange z = Check.of("L010010100t099000000t099000000m008m103m007m102");
        Check.is("3, then 2 behind the 8 that does not fit", z.tick(1), 5);
        Check.is("8", z.tick(1), 8);
        Check.is("7", z.tick(1), 7);
    }

    private static void sendsWithinCreditsAndWidth() {
        CreditExchange x = Check.of("L010010100t010030050m010m001");
        Check.is("size = credits = width", x.tick(1), 10);
        Check.is("level", x.tenant(0, 2), 0);
        Check.is("the next one", x.tick(1), 1);
        x.push(0, 11);
        Check.is("more than the width", x.tick(9), 0);
        Check.is("it stays", x.tenant(0, 9), 1);
        x.setWidth(11);
        Check.is("more than the credits", x.tick(9), 0);
        x.ask(0, 5, 4);
        x.withdraw(0);
        Check.is("stock counts as credits", x.tick(1), 11);
        Check.is("the stock was taken first", x.tenant(0, 3), 0);
        Check.is("then 7 of the bucket with 6 + 3", x.tenant(0, 2), 2);
    }

    private static void fillsBuckets() {
        CreditExchange x = Check.of("L010010100t010030050t099990000");
        x.ask(0, 9, 8);
        x.ask(1, 9, 99);
        x.tick(1);
        Check.is("2 + 3", x.tenant(0, 2), 5);
        Check.is("0 + 99", x.tenant(1, 2), 99);
        x.tick(2);
        Check.is("at most the capacity", x.tenant(0, 2), 10);
        Check.is("the stock stays", x.tenant(0, 3), 0);
    }

    private static void auctionsAtIntervals() {
        CreditExchange x = Check.of("L010030400t020000000t001000900");
        x.tick(1);
        x.ask(0, 5, 10);
        x.bid(1, 8, 4);
        x.tick(1);
        Check.is("no auction at 2", x.about(7), -9);
        x.tick(1);
        Check.is("the price at 3", x.about(7), 6);
        x.bid(1, 6, 6);
        x.tick(2);
        Check.is("no auction at 5", x.about(7), 6);
        x.tick(1);
        Check.is("the price at 6", x.about(7), 5);
        x.tick(3);
        Check.is("an auction without volume does not count", x.about(7), 5);
    }

    private static void settles() {
        CreditExchange x = Check.of("L010010800t050000000t050000100t001009999");
        x.ask(0, 10, 20);
        x.askShort(1, 10, 20);
        x.ask(1, 10, 5);
        x.bid(2, 30, 15);
        x.bid(2, 15, 17);
        x.bid(1, 9, 3);
        x.askShort(0, 16, 9);
        // asks at 10: 20 of kind 1 by tenant 0, 5 by tenant 1, then the short one; 32 are matched
        Check.is("the price", x.auction(1), 12);
        x.tick(1);
        Check.is("the book", Check.book(x), "1,2,10,13,0;1,0,9,3,0;0,2,16,9,0;");
        Check.is("tenant 0 gets 20 * 12", Check.tenant(x, 0), "50,0,30,0,240,0,0,0,-9,0,0,-9");
        Check.is("tenant 1 gets 12 * 12 and a debt of 7", Check.tenant(x, 1), "50,0,45,0,217,0,27,7,9,0,0,-9");
        Check.is("tenant 2 pays 32 * 12", Check.tenant(x, 2), "1,0,1,32,9615,0,0,0,-9,0,0,-9");
        x.bid(2, 10, 4);
        x.tick(1);
        Check.is("another debt", x.tenant(1, 7), 11);
        Check.is("the first one is due first", x.tenant(1, 8), 9);
        x.tick(7);
        Check.is("the first one is collected at 9", x.tenant(1, 7), 4);
        Check.is("the second one is due at 10", x.tenant(1, 8), 10);
        Check.is("7 credits less", x.tenant(1, 2), 38);
        x.tick(1);
        Check.is("no debts", x.tenant(1, 8), -9);
        // orders of the same tenant are matched like others
        CreditExchange y = Check.of("L010010800t050000100");
        y.ask(0, 3, 20);
        y.bid(0, 5, 20);
        y.tick(1);
        Check.is("a tenant trades with itself", Check.all(y),
                "1,10,1,8,0,1,0,4,0,0\ntenant 50,0,30,20,100,0,0,0,-9,0,0,-9 queue \n");
    }

    /** At time 1 tenant 0 has sold 30 short to tenant 1, at 2 each; due at 3. */
    private static CreditExchange soldShort(int penalty, int level) {
        CreditExchange x = Check.of(String.format("L0990102%02dt%03d000000t050000100m101", penalty, level));
        x.askShort(0, 2, 30);
        x.bid(1, 2, 30);
        x.tick(1);
        Check.is("the debt", x.tenant(0, 7), 30);
        return x;
    }

    private static void collectsFromCredits() {
        CreditExchange x = soldShort(7, 40);
        x.ask(0, 90, 12);
        x.withdraw(0);
        x.ask(0, 90, 5);
        x.tick(1);
        Check.is("not due at 2", x.tenant(0, 7), 30);
        x.tick(1);
        Check.is("7 of the stock and 23 of the bucket", Check.tenant(x, 0), "40,0,5,0,60,5,0,0,-9,0,0,-9");
        Check.is("the house", x.about(6), 0);
    }

    private static void collectsFromOrders() {
        CreditExchange x = soldShort(7, 40);
        x.ask(0, 90, 12);
        x.bid(1, 1, 5);
        x.ask(0, 91, 3);
        x.bid(0, 1, 50);
        x.askShort(0, 95, 9);
        x.ask(1, 96, 9);
        x.tick(2);
        Check.is("all its orders are withdrawn", Check.book(x), "1,0,1,5,0;1,1,96,9,0;");
        Check.is("10 credits and all cash are left", Check.tenant(x, 0), "40,0,0,10,60,0,0,0,-9,0,0,-9");
        Check.is("the house", x.about(6), 0);
        CreditExchange y = soldShort(7, 40);
        y.ask(0, 90, 10);
        y.bid(0, 1, 50);
        y.tick(2);
        Check.is("nothing is missing, so the orders stay", Check.book(y), "0,1,90,10,0;0,0,1,50,0;");
        Check.is("no credits are left", Check.tenant(y, 0), "40,0,0,0,10,10,50,0,-9,0,0,-9");
    }

    private static void collectsPenalties() {
        CreditExchange x = soldShort(5, 20);
        x.bid(0, 1, 50);
        x.tick(2);
        Check.is("10 missing credits for 5 each, also from the bid", Check.tenant(x, 0), "20,0,0,0,10,0,0,0,-9,0,0,-9");
        Check.is("the house", x.about(6), 50);
        CreditExchange y = soldShort(6, 20);
        y.tick(2);
        Check.is("just enough cash", Check.tenant(y, 0), "20,0,0,0,0,0,0,0,-9,0,0,-9");
        Check.is("the house gets all", y.about(6), 60);
        CreditExchange z = soldShort(7, 20);
        z.tick(2);
        Check.is("8 are paid for, 2 are not", Check.tenant(z, 0), "20,0,0,0,4,0,0,0,-9,0,0,7");
        Check.is("the house gets 8 * 7", z.about(6), 56);
    }

    /** One credit makes the difference. */
    private static void collectsTheLastCredit() {
        CreditExchange x = soldShort(61, 29);
        x.tick(2);
        Check.is("one credit is missing and not paid for", Check.tenant(x, 0), "29,0,0,0,60,0,0,0,-9,0,0,7");
        CreditExchange y = soldShort(60, 29);
        y.bid(0, 1, 3);
        y.tick(2);
        Check.is("one credit is missing and paid for", Check.tenant(y, 0), "29,0,0,0,0,0,0,0,-9,0,0,-9");
        CreditExchange z = soldShort(60, 30);
        z.ask(0, 90, 1);
        z.tick(2);
        Check.is("one credit comes from an order", Check.tenant(z, 0), "30,0,0,0,60,0,0,0,-9,0,0,-9");
        CreditExchange w = Check.of("L099010250t001000000t050000100");
        w.ask(0, 90, 1);
        w.withdraw(0);
        w.push(0, 1);
        w.askShort(0, 2, 1);
        w.bid(1, 2, 1);
        w.tick(3);
        Check.is("a debt of one credit", Check.tenant(w, 0), "1,0,0,0,2,0,0,0,-9,0,1,7");
    }

    /** The longest term, and debts that are due at each of the times to come. */
    private static void collectsAfterTheLongestTerm() {
        CreditExchange x = Check.of("L099015009t099000000t001000999");
        for (int k = 1; k <= 51; k++) {
            x.askShort(0, 1, 1);
            x.bid(1, 1, 1);
            x.tick(1);
            Check.is("the debts at " + k, x.tenant(0, 7), Math.min(k, 50));
            Check.is("the earliest one at " + k, x.tenant(0, 8), k < 51 ? 51 : 52);
        }
        Check.is("one was collected", x.tenant(0, 2), 98);
        x.tick(49);
        Check.is("one is left", x.tenant(0, 7), 1);
        Check.is("it is due at 101", x.tenant(0, 8), 101);
        x.tick(1);
        Check.is("none is left", x.tenant(0, 8), -9);
        Check.is("all were collected", x.tenant(0, 2), 48);
    }

    private static void collectsSeveralDebts() {
        CreditExchange x = Check.of("L099010209t010000000t010000000t050000999");
        x.askShort(0, 2, 8);
        x.askShort(1, 2, 8);
        x.askShort(0, 2, 9);
        x.bid(2, 2, 25);
        x.tick(1);
        Check.is("the debts of tenant 0", x.tenant(0, 7), 17);
        x.bid(0, 1, 20);
        x.tick(2);
        // 10 credits are there; the cash of 34 pays for 3 of the 7 others
        Check.is("tenant 0", Check.tenant(x, 0), "10,0,0,0,7,0,0,0,-9,0,0,7");
        Check.is("tenant 1", Check.tenant(x, 1), "10,0,2,0,16,0,0,0,-9,0,0,-9");
        Check.is("the house", x.about(6), 27);
        Check.is("no orders", x.about(8), 0);
    }

    private static void suspendsAnew() {
        CreditExchange x = Check.of("L099010399t001050001t050000999m001");
        x.tick(1);
        x.askShort(0, 1, 5);
        x.bid(1, 1, 5);
        x.tick(1);
        x.askShort(0, 1, 6);
        x.bid(1, 1, 6);
        x.tick(1);
        Check.is("debts due at 5 and 6", x.tenant(0, 7) * 100 + x.tenant(0, 8), 1105);
        x.push(0, 1);
        x.tick(1);
        x.push(0, 1);
        x.tick(1);
        Check.is("suspended at 5 until 11", x.tenant(0, 11), 11);
        x.push(0, 1);
        x.tick(1);
        Check.is("suspended at 6 until 12", x.tenant(0, 11), 12);
        Check.is("nothing is sent while suspended", x.tick(5), 0);
        Check.is("no credits while suspended", x.tenant(0, 2), 0);
        Check.is("the end at 12", x.tick(1), 1);
        Check.is("not suspended", x.tenant(0, 11), -9);
    }

    private static void collectsWithoutPenalty() {
        CreditExchange x = Check.of("L099010200t001000000t050000999");
        x.askShort(0, 1, 90);
        x.bid(1, 1, 90);
        x.tick(3);
        Check.is("a penalty of 0 can always be paid", Check.tenant(x, 0), "1,0,0,0,90,0,0,0,-9,0,0,-9");
        Check.is("the house", x.about(6), 0);
    }

    private static void setsRate() {
        CreditExchange x = Check.of("L010010100t010030050t099990000");
        Check.is("setRate(0, 99)", x.setRate(0, 99), 3);
        Check.is("setRate(0, 0)", x.setRate(0, 0), 99);
        Check.is("the rate", x.tenant(0, 1), 0);
        Check.is("of the other one", x.tenant(1, 1), 99);
        Check.is("the same rate again", x.setRate(0, 0), 0);
        for (int v : new int[] {-1, 100, Integer.MIN_VALUE, Integer.MAX_VALUE}) {
            Check.refuses("setRate(0, " + v + ")", Check.ARGUMENT, x, () -> x.setRate(0, v));
            Check.refuses("setRate(2, " + v + ")", Check.INDEX, x, () -> x.setRate(2, v));
            Check.refuses("setRate(" + v + ", 1)", Check.INDEX, x, () -> x.setRate(v, 1));
        }
        Check.is("each was an action", x.undo(), 2);
        x.undo();
        Check.is("the rate before", x.tenant(0, 1), 99);
    }

    private static void setsWidth() {
        CreditExchange x = Check.of("L010010100t010030050m009");
        Check.is("setWidth(1)", x.setWidth(1), 10);
        Check.is("too narrow", x.tick(1), 0);
        Check.is("setWidth(999)", x.setWidth(999), 1);
        Check.is("the width", x.about(1), 999);
        for (int v : new int[] {0, -1, 1000, Integer.MIN_VALUE, Integer.MAX_VALUE}) {
            Check.refuses("setWidth(" + v + ")", Check.ARGUMENT, x, () -> x.setWidth(v));
        }
        Check.is("an action", x.undo(), 2);
        Check.is("the width before", x.about(1), 1);
    }

    private static void undoes() {
        CreditExchange x = new CreditExchange();
        for (int k = 1; k <= 20; k++) {
            x.deposit(0, k);
        }
        int cash = 210;
        for (int k = 20; k > 6; k--) {
            Check.is("undo of deposit " + k, x.undo(), k - 7);
            cash -= k;
            Check.is("cash then", x.tenant(0, 4), cash);
        }
        Check.refuses("undo of what is forgotten", Check.STATE, x, () -> x.undo());
        x.deposit(0, 5);
        x.deposit(0, 6);
        Check.is("undo is no action itself", x.undo(), 1);
        Check.is("undo again", x.undo(), 0);
        Check.is("back again", x.tenant(0, 4), cash);
        x.setRate(0, 4);
        x.about(1);
        x.ahead(5, 0, 1);
        x.simulate(3, 5);
        x.runScript(1, 400003);
        x.save(0);
        Check.is("questions, scripts and save are no actions", x.undo(), 0);
    }

    private static void undoBringsAllBack() {
        CreditExchange x = Check.of("L012020405t010030020t020020500t005000100m007m107m205");
        x.bid(1, 10, 5);
        x.ask(0, 6, 4);
        x.askShort(2, 8, 3);
        x.tick(3);
        String before = Check.all(x);
        x.tick(50);
        Check.that("50 ticks change something", !before.equals(Check.all(x)));
        x.undo();
        Check.is("undo of 50 ticks", Check.all(x), before);
        x.push(2, 5);
        x.undo();
        x.bid(1, 2, 3);
        x.undo();
        x.setWidth(500);
        x.undo();
        Check.is("undo of other actions", Check.all(x), before);
        x.append('x');
        Check.is("four actions are still remembered", x.undo(), 3);
        Check.is("the text is no part of the state", x.clearText(), 53);
    }
}
