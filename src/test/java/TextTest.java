/** Promises 2 to 5: append, clearText, errorPosition, load. */
public final class TextTest {
    private static final String LINK = "L001205099";
    private static final String TENANT = "t999009999";

    public static void main(String[] args) {
        appendsAndClears();
        errorsInTheLink();
        errorsInTenants();
        errorsInMessages();
        loads();
        loadForgets();
        loadDropsDebts();
        refusesToLoad();
        Check.end();
    }

    private static void appendsAndClears() {
        CreditExchange x = new CreditExchange();
        Check.is("clearText of an empty text", x.clearText(), 0);
        Check.is("append(0)", x.append(0), 1);
        Check.is("append(255)", x.append(255), 2);
        Check.refuses("append(-1)", Check.ARGUMENT, x, () -> x.append(-1));
        Check.refuses("append(256)", Check.ARGUMENT, x, () -> x.append(256));
        Check.refuses("append(min)", Check.ARGUMENT, x, () -> x.append(Integer.MIN_VALUE));
        Check.is("clearText after refused calls", x.clearText(), 2);
        Check.is("clearText again", x.clearText(), 0);
        for (int k = 1; k <= 160; k++) {
            Check.is("append number " + k, x.append('L'), k);
        }
        Check.refuses("append to a full text", Check.STATE, x, () -> x.append('L'));
        Check.refuses("append(256) to a full text", Check.ARGUMENT, x, () -> x.append(256));
        Check.is("clearText of a full text", x.clearText(), 160);
        Check.is("append after clearText", x.append(76), 1);
        Check.is("no action", Check.all(x), Check.all(new CreditExchange()));
        Check.refuses("undo, as the text knows no actions", Check.STATE, x, () -> x.undo());
    }

    private static void errorAt(String text, int position) {
        CreditExchange x = new CreditExchange();
        Check.type(x, text);
        String before = Check.all(x);
        Check.is("errorPosition of " + text, x.errorPosition(), position);
        Check.is("errorPosition of " + text + " again", x.errorPosition(), position);
        Check.is("errorPosition changes nothing", Check.all(x), before);
        if (position == Check.NONE) {
            Check.is("load of " + text, x.load(), x.about(0));
        } else {
            Check.refuses("load of " + text, Check.STATE, x, () -> x.load());
        }
        Check.is("the text is kept", x.clearText(), text.length());
    }

    private static void errorsInTheLink() {
        errorAt("", 0);
        errorAt("l", 0);
        errorAt("t", 0);
        errorAt(" L", 0);
        errorAt("L", 1);
        errorAt("L/", 1);
        errorAt("L:", 1);
        errorAt("L0a", 2);
        errorAt("L00", 3);
        errorAt("L000", 3);
        errorAt("L001", 4);
        errorAt("L00100", 5);
        errorAt("L00101", 6);
        errorAt("L00120", 6);
        errorAt("L00121", 5);
        errorAt("L0013", 4);
        errorAt("L0012000", 7);
        errorAt("L0012001", 8);
        errorAt("L0012049", 8);
        errorAt("L0012050", 8);
        errorAt("L0012051", 7);
        errorAt("L001206", 6);
        errorAt("L00120500", 9);
        errorAt("L0012050x", 8);
        errorAt("L001205000", 10);
        errorAt("L001205000L", 10);
        errorAt("L001205000m", 10);
    }

    private static void errorsInTenants() {
        errorAt(LINK + "t", 11);
        errorAt(LINK + "t000", 13);
        errorAt(LINK + "t001", 14);
        errorAt(LINK + "t001x", 14);
        errorAt(LINK + "t00100000", 19);
        errorAt(LINK + "t00100000t", 19);
        errorAt(LINK + "t001000000", Check.NONE);
        errorAt(LINK + TENANT, Check.NONE);
        errorAt(LINK + TENANT + "0", 20);
        errorAt(LINK + TENANT + (char) 0, 20);
        errorAt(LINK + TENANT + (char) 255, 20);
        errorAt(LINK + TENANT + "t", 21);
        errorAt(LINK + TENANT.repeat(6), Check.NONE);
        errorAt(LINK + TENANT.repeat(6) + "t", 70);
        errorAt(LINK + TENANT.repeat(6) + "m512", Check.NONE);
        errorAt(LINK + TENANT.repeat(6) + "m612", 71);
    }

    private static void errorsInMessages() {
        String one = LINK + TENANT;
        errorAt(one + "m", 21);
        errorAt(one + "mm", 21);
        errorAt(one + "m1", 21);
        errorAt(one + "m/", 21);
        errorAt(one + "m0", 22);
        errorAt(one + "m000", 23);
        errorAt(one + "m001", Check.NONE);
        errorAt(one + "m099", Check.NONE);
        errorAt(one + "m09t", 23);
        errorAt(one + "m001t", 24);
        errorAt(one + "m001L", 24);
        errorAt(one + "m001".repeat(8), Check.NONE);
        errorAt(one + "m001".repeat(8) + "m", 52);
        errorAt(one + "m001".repeat(8) + "x", 52);
        String two = one + TENANT + "m001".repeat(8);
        errorAt(two, Check.NONE);
        errorAt(two + "m", 63);
        errorAt(two + "m0", 63);
        errorAt(two + "m1", 64);
        errorAt(two + "m101".repeat(8), Check.NONE);
        errorAt(two + "m101".repeat(8) + "m1", 94);
        String full = LINK + TENANT.repeat(6) + "m001m102m203m304m405".repeat(4) + "m506m507";
        errorAt(full, Check.NONE);
        errorAt(full + "m5", 160);
        errorAt(full + "mm", 159);
    }

    private static void loads() {
        CreditExchange x = Check.of("L012020405t010030020t020020500t005000100m007m107m012m205");
        Check.is("all that was loaded", Check.all(x),
                "3,12,2,4,5,0,0,-9,0,0\n"
                + "tenant 10,3,10,0,20,0,0,0,-9,2,0,-9 queue 7,12\n"
                + "tenant 20,2,20,0,500,0,0,0,-9,1,0,-9 queue 7\n"
                + "tenant 5,0,5,0,100,0,0,0,-9,1,0,-9 queue 5\n");
        Check.is("load again", x.load(), 3);
        CreditExchange y = Check.of("L999010199t999999999");
        Check.is("the greatest numbers", Check.all(y),
                "1,999,1,1,99,0,0,-9,0,0\ntenant 999,99,999,0,9999,0,0,0,-9,0,0,-9 queue \n");
    }

    private static void loadForgets() {
        String text = "L020010301t010050100t010050100m003";
        CreditExchange x = Check.of(text);
        String fresh = Check.all(x);
        x.askShort(0, 4, 20);
        x.askShort(0, 9, 20);
        x.bid(1, 5, 20);
        x.save(0);
        x.tick(1);
        Check.is("an auction took place", x.about(7), 4);
        x.tick(3);
        Check.is("the house has got the tenant's cash", x.about(6) > 0 ? 1 : 0, 1);
        x.setWidth(7);
        x.setRate(1, 9);
        x.save(1);
        Check.is("load answers the number of tenants", x.load(), 2);
        Check.is("everything is replaced", Check.all(x), fresh);
        Check.refuses("undo after load", Check.STATE, x, () -> x.undo());
        Check.refuses("restore(0) after load", Check.STATE, x, () -> x.restore(0));
        Check.refuses("restore(1) after load", Check.STATE, x, () -> x.restore(1));
        Check.is("the text is kept", x.clearText(), text.length());
    }

    /** Whenever a debt is due, load drops it. */
    private static void loadDropsDebts() {
        CreditExchange x = Check.of("L020015001t010050100");
        String fresh = Check.all(x);
        for (int k = 1; k <= 52; k++) {
            x.askShort(0, 1, 1);
            x.bid(0, 1, 1);
            x.tick(1);
        }
        Check.is("the debts", x.tenant(0, 7), 50);
        Check.is("the debts in a question about the time to come", x.ahead(0, 0, 7), 50);
        x.load();
        Check.is("no debts", Check.all(x), fresh);
    }

    private static void refusesToLoad() {
        CreditExchange x = Check.of("L020010301t010050100");
        x.push(0, 9);
        x.save(1);
        x.append('m');
        Check.refuses("load of a text that ends too soon", Check.STATE, x, () -> x.load());
        Check.is("the action is still remembered", x.undo(), 0);
        Check.is("the slot still has its state", x.restore(1), 0);
        Check.is("with the message", x.message(0, 0), 9);
        Check.is("the text has its last sign", x.append('0'), 22);
    }
}
