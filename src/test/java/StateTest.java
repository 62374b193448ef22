/** Promises 1 and 6 to 9: a new object, about, tenant, message, order. */
public final class StateTest {
    public static void main(String[] args) {
        newObject();
        aboutNumbers();
        tenantNumbers();
        suspension();
        messages();
        orders();
        Check.end();
    }

    private static void newObject() {
        CreditExchange x = new CreditExchange();
        Check.is("NONE", CreditExchange.NONE, -9);
        Check.is("a new object", Check.all(x), "1,1,1,1,0,0,0,-9,0,0\ntenant 1,0,1,0,0,0,0,0,-9,0,0,-9 queue \n");
        Check.is("its text", x.clearText(), 0);
        Check.refuses("undo on a new object", Check.STATE, x, () -> x.undo());
        Check.refuses("restore(0) on a new object", Check.STATE, x, () -> x.restore(0));
        Check.refuses("restore(1) on a new object", Check.STATE, x, () -> x.restore(1));
    }

    private static void aboutNumbers() {
        CreditExchange x = Check.of("L012020405t010030020t020020500m007m105");
        int[] due = {2, 12, 2, 4, 5, 0, 0, -9, 0, 0};
        for (int what = 0; what <= 9; what++) {
            Check.is("about(" + what + ")", x.about(what), due[what]);
        }
        x.tick(1);
        Check.is("the time", x.about(5), 1);
        Check.is("the bytes of the last tick", x.about(9), 12);
        x.tick(1);
        Check.is("the bytes of a tick without messages", x.about(9), 0);
        x.bid(1, 9, 3);
        Check.is("the number of orders", x.about(8), 1);
        for (int what : new int[] {-1, 10, Integer.MIN_VALUE, Integer.MAX_VALUE}) {
            Check.refuses("about(" + what + ")", Check.ARGUMENT, x, () -> x.about(what));
        }
    }

    private static void tenantNumbers() {
        CreditExchange x = Check.of("L050030701t040100100t030200500m012m009");
        x.ask(0, 8, 15);
        x.ask(0, 30, 5);
        x.bid(0, 2, 7);
        x.askShort(0, 8, 10);
        x.bid(1, 10, 20);
        x.bid(1, 1, 3);
        Check.is("tenant 0 with orders", Check.tenant(x, 0), "40,10,20,0,86,20,14,0,-9,2,0,-9");
        Check.is("tenant 1 with orders", Check.tenant(x, 1), "30,20,30,0,297,0,203,0,-9,0,0,-9");
        x.tick(3);
        // 15 of the ask and 5 of the short ask are sold at (10 + 8) / 2, due at 3 + 7
        Check.is("tenant 0 after the auction", Check.tenant(x, 0), "40,10,29,0,266,5,14,5,10,0,21,-9");
        Check.is("tenant 1 after the auction", Check.tenant(x, 1), "30,20,30,20,317,0,3,0,-9,0,0,-9");
        for (int what : new int[] {-1, 12, Integer.MIN_VALUE, Integer.MAX_VALUE}) {
            Check.refuses("tenant(1, " + what + ")", Check.ARGUMENT, x, () -> x.tenant(1, what));
            Check.refuses("tenant(2, " + what + ")", Check.INDEX, x, () -> x.tenant(2, what));
        }
        for (int t : new int[] {-1, 2, 6, Integer.MIN_VALUE, Integer.MAX_VALUE}) {
            Check.refuses("tenant(" + t + ", 0)", Check.INDEX, x, () -> x.tenant(t, 0));
        }
    }

    private static void suspension() {
        CreditExchange x = Check.of("L050010209t001000000t001000900");
        x.askShort(0, 1, 30);
        x.bid(1, 1, 30);
        x.tick(1);
        Check.is("the earliest debt", x.tenant(0, 8), 3);
        x.tick(1);
        Check.is("not yet suspended", x.tenant(0, 11), -9);
        x.tick(1);
        // 1 credit is there, and the cash of 30 pays for 3 of the 29 that are missing
        Check.is("suspended until 3 + 2 * 2", x.tenant(0, 11), 7);
        Check.is("its cash", x.tenant(0, 4), 3);
        Check.is("the cash of the house", x.about(6), 27);
        Check.is("its debts", x.tenant(0, 7), 0);
        Check.is("no debt is due", x.tenant(0, 8), -9);
        x.tick(3);
        Check.is("still suspended at 6", x.tenant(0, 11), 7);
        x.tick(1);
        Check.is("free at 7", x.tenant(0, 11), -9);
    }

    private static void messages() {
        CreditExchange x = Check.of("L050010209t001000000t001000900m012m013");
        Check.is("message(0, 0)", x.message(0, 0), 12);
        Check.is("message(0, 1)", x.message(0, 1), 13);
        Check.is("message(0, 2)", x.message(0, 2), -9);
        Check.is("message(0, 7)", x.message(0, 7), -9);
        Check.is("message(1, 0)", x.message(1, 0), -9);
        for (int k = 0; k < 6; k++) {
            x.push(0, 20 + k);
        }
        Check.is("the last message of a full queue", x.message(0, 7), 25);
        for (int i : new int[] {-1, 8, Integer.MIN_VALUE, Integer.MAX_VALUE}) {
            Check.refuses("message(0, " + i + ")", Check.ARGUMENT, x, () -> x.message(0, i));
            Check.refuses("message(2, " + i + ")", Check.INDEX, x, () -> x.message(2, i));
            Check.refuses("message(" + i + ", 0)", Check.INDEX, x, () -> x.message(i, 0));
        }
    }

    private static void orders() {
        CreditExchange x = Check.of("L050050209t099000000t001009000");
        Check.refuses("order(0, 0) of an empty book", Check.INDEX, x, () -> x.order(0, 0));
        x.bid(1, 20, 30);
        x.ask(0, 15, 12);
        x.askShort(0, 21, 9);
        x.askShort(1, 20, 40);
        Check.is("the book", Check.book(x), "1,0,20,30,30;0,1,15,12,12;0,2,21,9,0;1,2,20,40,18;");
        for (int what : new int[] {-1, 5, Integer.MIN_VALUE, Integer.MAX_VALUE}) {
            Check.refuses("order(3, " + what + ")", Check.ARGUMENT, x, () -> x.order(3, what));
            Check.refuses("order(4, " + what + ")", Check.INDEX, x, () -> x.order(4, what));
        }
        for (int i : new int[] {-1, 4, 12, Integer.MIN_VALUE, Integer.MAX_VALUE}) {
            Check.refuses("order(" + i + ", 0)", Check.INDEX, x, () -> x.order(i, 0));
        }
    }
}
