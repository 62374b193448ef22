import java.util.List;
import java.util.function.ToIntFunction;

/** The boundary cases of the section ACTIONS AND UNDO and of promises 19, 33 and 34, each with the sentence that names it. */
public final class UndoEdgeTest {
    private static final String TEXT = "L050010205t040050600t030020345m110";

    public static void main(String[] args) {
        fourteenStates();
        oldestOneIsForgotten();
        forgottenAndUndone();
        eachActionIsOneState();
        refusedCallsAreNoActions();
        noOtherCallIsAnAction();
        undoIsNoAction();
        nothingToUndo();
        undoKeepsTheText();
        undoKeepsTheSlots();
        undoOfAllStateNumbers();
        twoSlots();
        slotsOutOfRange();
        emptySlots();
        slotOfANewObject();
        slotIsOverwritten();
        slotKeepsItsState();
        restoreForgets();
        restoreRefusedForgetsNothing();
        saveKeepsStates();
        loadEmptiesSlots();
        Check.end();
    }

    /** "At most 14 states are remembered" */
    private static void fourteenStates() {
        for (int actions = 0; actions <= 45; actions++) {
            CreditExchange x = new CreditExchange();
            for (int k = 1; k <= actions; k++) {
                x.deposit(0, k);
            }
            for (int left = Math.min(14, actions); left > 0; left--) {
                Check.is("undo after " + actions + " actions", x.undo(), left - 1);
            }
            Check.refuses("one more undo after " + actions, Check.STATE, x, () -> x.undo());
        }
    }

    private static int sumTo(int k) {
        return k * (k + 1) / 2;
    }

    /** "when one more is remembered, the oldest one is forgotten" */
    private static void oldestOneIsForgotten() {
        for (int actions = 13; actions <= 30; actions++) {
            CreditExchange x = new CreditExchange();
            for (int k = 1; k <= actions; k++) {
                x.deposit(0, k);
            }
            for (int k = actions - 1; k >= Math.max(0, actions - 14); k--) {
                x.undo();
                Check.is("cash after " + actions + " actions, back to " + k, x.tenant(0, 4), sumTo(k));
            }
            Check.is("no further", Check.canUndo(x), Check.NONE);
        }
    }

    /** "when one more is remembered, the oldest one is forgotten": also after some were taken back */
    private static void forgottenAndUndone() {
        CreditExchange x = new CreditExchange();
        for (int k = 1; k <= 20; k++) {
            x.deposit(0, k);
        }
        for (int k = 0; k < 5; k++) {
            x.undo();
        }
        Check.is("cash of 15 deposits", x.tenant(0, 4), sumTo(15));
        for (int k = 16; k <= 20; k++) {
            x.deposit(0, k);
        }
        Check.is("nine and five are 14", x.undo(), 13);
        x.deposit(0, 20);
        x.deposit(0, 21);
        Check.is("a fifteenth one is not kept", x.undo(), 13);
        for (int left = 12; left >= 0; left--) {
            Check.is("back", x.undo(), left);
        }
        Check.is("to the state after 7 deposits", x.tenant(0, 4), sumTo(7));
        Check.is("no further", Check.canUndo(x), Check.NONE);
    }

    private static void undoneBy(String what, ToIntFunction<CreditExchange> action) {
        CreditExchange x = Check.of(TEXT);
        x.ask(0, 50, 5);
        String before = Check.all(x);
        action.applyAsInt(x);
        Check.is(what + " is one action", x.undo(), 1);
        Check.is(what + " is taken back", Check.all(x), before);
    }

    /** "Each call of one of them that does not throw an exception is an action. Before each action, the state is remembered." */
    private static void eachActionIsOneState() {
        undoneBy("bid", x -> x.bid(0, 1, 1));
        undoneBy("ask", x -> x.ask(1, 60, 30));
        undoneBy("askShort", x -> x.askShort(1, 60, 99));
        undoneBy("withdraw", x -> x.withdraw(0));
        undoneBy("push", x -> x.push(0, 99));
        undoneBy("deposit", x -> x.deposit(1, 9999));
        undoneBy("tick(1)", x -> x.tick(1));
        undoneBy("tick(50)", x -> x.tick(50));
        undoneBy("setRate", x -> x.setRate(0, 99));
        undoneBy("setRate to the same", x -> x.setRate(0, 5));
        undoneBy("setWidth", x -> x.setWidth(999));
        undoneBy("setWidth to the same", x -> x.setWidth(50));
    }

    /** "Each call of one of them that does not throw an exception is an action." */
    private static void refusedCallsAreNoActions() {
        CreditExchange x = new CreditExchange();
        x.deposit(0, 1);
        Check.refuses("bid", Check.STATE, x, () -> x.bid(0, 99, 99));
        Check.refuses("ask", Check.STATE, x, () -> x.ask(0, 1, 2));
        Check.refuses("askShort", Check.ARGUMENT, x, () -> x.askShort(0, 1, 100));
        Check.refuses("withdraw", Check.INDEX, x, () -> x.withdraw(0));
        Check.refuses("push", Check.ARGUMENT, x, () -> x.push(0, 0));
        Check.refuses("deposit", Check.ARGUMENT, x, () -> x.deposit(0, 0));
        Check.refuses("tick", Check.ARGUMENT, x, () -> x.tick(0));
        Check.refuses("setRate", Check.ARGUMENT, x, () -> x.setRate(0, 100));
        Check.refuses("setWidth", Check.ARGUMENT, x, () -> x.setWidth(0));
        Check.is("one action", x.undo(), 0);
    }

    /** "The methods in the section \"actions\"": the other calls are none */
    private static void noOtherCallIsAnAction() {
        CreditExchange x = Check.of(TEXT);
        x.deposit(0, 1);
        Check.seen(x);
        x.append('x');
        x.clearText();
        x.save(0);
        Check.is("one action", x.undo(), 0);
    }

    /** "undo, load and restore are not actions." */
    private static void undoIsNoAction() {
        CreditExchange x = Check.of(TEXT);
        x.deposit(0, 1);
        x.deposit(0, 2);
        Check.is("undo", x.undo(), 1);
        Check.is("undo again takes the first one back", x.undo(), 0);
        Check.is("cash", x.tenant(0, 4), 600);
        x.load();
        Check.is("load", Check.canUndo(x), Check.NONE);
        x.save(1);
        x.restore(1);
        Check.is("restore", Check.canUndo(x), Check.NONE);
    }

    /** "IllegalStateException if none is remembered" */
    private static void nothingToUndo() {
        CreditExchange x = new CreditExchange();
        Check.refuses("a new object", Check.STATE, x, () -> x.undo());
        x.tick(1);
        x.undo();
        Check.refuses("after the only one", Check.STATE, x, () -> x.undo());
        x.tick(2);
        Check.is("a new action", x.undo(), 0);
        Check.is("the time", x.about(5), 0);
    }

    /** "The text and the save slots are not part of the state.": the text */
    private static void undoKeepsTheText() {
        CreditExchange x = new CreditExchange();
        x.tick(1);
        Check.type(x, TEXT);
        x.undo();
        Check.is("the text stays", x.errorPosition(), Check.NONE);
        Check.is("its length", x.clearText(), TEXT.length());
        x.tick(1);
        x.append('L');
        x.tick(1);
        x.clearText();
        x.undo();
        Check.is("and stays empty", x.clearText(), 0);
    }

    /** "The text and the save slots are not part of the state.": the slots */
    private static void undoKeepsTheSlots() {
        CreditExchange x = new CreditExchange();
        x.tick(1);
        x.save(0);
        x.undo();
        Check.is("the slot stays", x.restore(0), 1);
        x.tick(1);
        x.save(0);
        x.tick(1);
        x.save(1);
        x.undo();
        x.undo();
        Check.is("slot 1", x.restore(1), 3);
        Check.is("slot 0", x.restore(0), 2);
    }

    /** "the state: tenants, orders, time, width, house, the price of the last auction .., and the bytes .." */
    private static void undoOfAllStateNumbers() {
        CreditExchange x = Check.of("L050010299t001010200t001000900m001");
        x.askShort(0, 1, 5);
        x.bid(1, 1, 5);
        String[] told = new String[10];
        for (int k = 0; k < 10; k++) {
            told[k] = Check.all(x);
            x.tick(1);
        }
        Check.is("the house has got something", x.about(6), 198);
        x.save(0);
        Check.is("the slot has it too", x.ahead(0, 0, 4), 7);
        for (int k = 9; k >= 0; k--) {
            Check.is("undo", x.undo(), 2 + k);
            Check.is("at " + k, Check.all(x), told[k]);
        }
        x.restore(0);
        Check.is("the house after restore", x.about(6), 198);
    }

    /** "slot: 0 or 1" */
    private static void twoSlots() {
        CreditExchange x = Check.of(TEXT);
        x.tick(3);
        Check.is("save(0)", x.save(0), 3);
        x.tick(4);
        Check.is("save(1)", x.save(1), 7);
        x.tick(5);
        Check.is("restore(0)", x.restore(0), 3);
        Check.is("the time", x.about(5), 3);
        Check.is("restore(1)", x.restore(1), 7);
        Check.is("the time", x.about(5), 7);
    }

    /** "IndexOutOfBoundsException if there is no such slot" */
    private static void slotsOutOfRange() {
        CreditExchange x = Check.of(TEXT);
        CreditExchange y = Check.of(TEXT);
        y.save(0);
        y.save(1);
        for (CreditExchange any : List.of(x, y)) {
            for (int slot : new int[] {-1, 2, Integer.MIN_VALUE, Integer.MAX_VALUE}) {
                Check.refuses("save(" + slot + ")", Check.INDEX, any, () -> any.save(slot));
                Check.refuses("restore(" + slot + ")", Check.INDEX, any, () -> any.restore(slot));
            }
        }
    }

    /** "IllegalStateException if the slot is empty" */
    private static void emptySlots() {
        for (int slot = 0; slot <= 1; slot++) {
            int full = slot;
            int empty = 1 - slot;
            CreditExchange x = Check.of(TEXT);
            Check.refuses("restore(" + full + ")", Check.STATE, x, () -> x.restore(full));
            x.save(full);
            Check.refuses("restore(" + empty + ")", Check.STATE, x, () -> x.restore(empty));
            Check.is("the other one", x.restore(full), 0);
        }
    }

    /** "Stores the present state in a slot.": that of a new object */
    private static void slotOfANewObject() {
        CreditExchange x = new CreditExchange();
        String before = Check.all(x);
        Check.is("save", x.save(1), 0);
        x.deposit(0, 500);
        x.push(0, 1);
        x.bid(0, 5, 5);
        x.tick(9);
        Check.is("restore", x.restore(1), 0);
        Check.is("the state", Check.all(x), before);
    }

    /** "Stores the present state in a slot.": what was there before is gone */
    private static void slotIsOverwritten() {
        CreditExchange x = Check.of(TEXT);
        x.askShort(0, 50, 5);
        x.save(0);
        x.withdraw(0);
        x.tick(1);
        String second = Check.all(x);
        x.save(0);
        x.tick(1);
        Check.is("the second one", x.restore(0), 1);
        Check.is("whole", Check.all(x), second);
    }

    /** "The slot keeps its state." */
    private static void slotKeepsItsState() {
        CreditExchange x = Check.of(TEXT);
        x.askShort(0, 50, 5);
        x.save(0);
        String saved = Check.all(x);
        for (int k = 0; k < 3; k++) {
            x.tick(1 + k);
            x.deposit(1, 7);
            x.withdraw(0);
            Check.is("restore", x.restore(0), 0);
            Check.is("the state", Check.all(x), saved);
        }
    }

    /** "and forgets all remembered states" */
    private static void restoreForgets() {
        CreditExchange x = Check.of(TEXT);
        for (int k = 0; k < 20; k++) {
            x.tick(1);
        }
        x.save(0);
        x.restore(0);
        Check.refuses("undo", Check.STATE, x, () -> x.undo());
        for (int k = 1; k <= 15; k++) {
            x.tick(1);
        }
        Check.is("14 are remembered anew", x.undo(), 13);
    }

    /** "A call that throws an exception changes nothing.": restore of an empty slot forgets no state */
    private static void restoreRefusedForgetsNothing() {
        CreditExchange x = Check.of(TEXT);
        x.tick(1);
        x.tick(1);
        Check.refuses("an empty slot", Check.STATE, x, () -> x.restore(0));
        Check.refuses("no such slot", Check.INDEX, x, () -> x.restore(2));
        Check.is("both states", x.undo(), 1);
    }

    /** "Stores the present state in a slot.": the remembered ones stay, and are not stored */
    private static void saveKeepsStates() {
        CreditExchange x = Check.of(TEXT);
        x.tick(1);
        x.tick(1);
        x.save(0);
        Check.is("undo after save", x.undo(), 1);
        Check.is("the time", x.about(5), 1);
        Check.is("restore", x.restore(0), 2);
        Check.is("no states come with it", Check.canUndo(x), Check.NONE);
    }

    /** "empties both save slots" */
    private static void loadEmptiesSlots() {
        CreditExchange x = Check.of(TEXT);
        for (int round = 0; round < 2; round++) {
            x.tick(1);
            x.save(0);
            x.save(1);
            x.load();
            Check.is("slot 0", Check.canRestore(x, 0), Check.NONE);
            Check.is("slot 1", Check.canRestore(x, 1), Check.NONE);
        }
        x.tick(5);
        Check.is("save after load", x.save(1), 5);
        x.tick(5);
        Check.is("restore after load", x.restore(1), 5);
    }
}
