/** Promises 33 and 34: save, restore. */
public final class SlotTest {
    private static final String TEXT = "L012020405t010030020t020020500t005000100m007m107m205";

    public static void main(String[] args) {
        refuses();
        savesAndRestores();
        slotsAreApart();
        forgetsStates();
        emptiedSlotsAreApart();
        Check.end();
    }

    private static void refuses() {
        CreditExchange x = Check.of(TEXT);
        for (int slot : new int[] {-1, 2, Integer.MIN_VALUE, Integer.MAX_VALUE}) {
            Check.refuses("save(" + slot + ")", Check.INDEX, x, () -> x.save(slot));
            Check.refuses("restore(" + slot + ")", Check.INDEX, x, () -> x.restore(slot));
        }
        x.save(0);
        Check.refuses("restore of an empty slot", Check.STATE, x, () -> x.restore(1));
        x.tick(1);
        Check.refuses("restore of an empty slot", Check.STATE, x, () -> x.restore(1));
        Check.is("the action is still remembered", x.undo(), 0);
    }

    private static void savesAndRestores() {
        CreditExchange x = Check.of(TEXT);
        x.bid(1, 10, 5);
        x.ask(0, 6, 4);
        x.askShort(2, 8, 3);
        x.push(2, 9);
        x.tick(3);
        x.bid(1, 2, 2);
        String saved = Check.all(x);
        Check.is("save answers the time", x.save(0), 3);
        Check.is("save changes nothing", Check.all(x), saved);
        x.withdraw(0);
        x.tick(20);
        x.setWidth(99);
        x.setRate(0, 1);
        Check.is("restore answers the time then", x.restore(0), 3);
        Check.is("the state is back", Check.all(x), saved);
        x.tick(7);
        x.deposit(0, 55);
        Check.is("the slot keeps its state", x.restore(0), 3);
        Check.is("the state is back again", Check.all(x), saved);
        x.tick(1);
        Check.is("a slot can be used anew", x.save(0), 4);
        x.tick(9);
        Check.is("with the new state", x.restore(0), 4);
    }

    private static void slotsAreApart() {
        CreditExchange x = Check.of(TEXT);
        x.save(1);
        x.tick(5);
        x.save(0);
        x.tick(5);
        x.append('m');
        Check.is("slot 1", x.restore(1), 0);
        Check.is("slot 0", x.restore(0), 5);
        Check.is("slot 1 again", x.restore(1), 0);
        Check.is("the text is no part of the state", x.clearText(), TEXT.length() + 1);
        Check.is("the slots do not depend on the text", x.restore(0), 5);
    }

    private static void forgetsStates() {
        CreditExchange x = Check.of(TEXT);
        x.tick(1);
        x.tick(1);
        x.save(0);
        Check.is("save keeps the remembered states", x.undo(), 1);
        x.restore(0);
        Check.refuses("undo after restore", Check.STATE, x, () -> x.undo());
        x.tick(1);
        Check.is("a new action", x.undo(), 0);
        Check.is("back to the restored state", x.about(5), 2);
        x.tick(2);
        x.save(0);
        x.undo();
        Check.is("undo does not touch a slot", x.restore(0), 4);
    }

    /** Both slots were full before load: then each of them is empty until it is saved to itself. */
    private static void emptiedSlotsAreApart() {
        for (int slot = 0; slot <= 1; slot++) {
            int used = slot;
            int other = 1 - slot;
            CreditExchange x = Check.of(TEXT);
            x.tick(7);
            x.save(0);
            x.save(1);
            x.load();
            Check.refuses("restore(" + used + ") after load", Check.STATE, x, () -> x.restore(used));
            Check.refuses("restore(" + other + ") after load", Check.STATE, x, () -> x.restore(other));
            x.tick(3);
            String saved = Check.all(x);
            Check.is("save(" + used + ") after load", x.save(used), 3);
            Check.refuses("restore of the other slot, " + other, Check.STATE, x, () -> x.restore(other));
            x.tick(4);
            Check.is("restore(" + used + ") after save", x.restore(used), 3);
            Check.is("the state saved after load", Check.all(x), saved);
        }
    }
}
