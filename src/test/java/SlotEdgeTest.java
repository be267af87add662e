/** The boundary cases of promises 34 and 35: a test for each sentence. */
public final class SlotEdgeTest {

    private static final int[] NO_SLOTS = {-1, 2, Integer.MIN_VALUE, Integer.MAX_VALUE};

    public static void main(String[] args) {
        noSuchSlotToSave();
        savedNumber();
        savedState();
        savedAnew();
        noSuchSlotToRestore();
        nothingSaved();
        restoredState();
        restoredNumber();
        statesForgotten();
        slotKeepsIt();
        restoreIsNoAction();
        slotsAndTextAreNoState();
        Check.end();
    }

    private static void noSuchSlotToSave() {
        Check.sentence("promise 34: IndexOutOfBoundsException if there is no such save slot");
        TripleWays x = Check.with(5);
        for (int slot : NO_SLOTS) {
            Check.index("save(" + slot + ")", () -> x.save(slot));
        }
        Check.state("nothing is saved in 0", () -> x.restore(0));
        Check.state("nothing is saved in 1", () -> x.restore(1));
        Check.same("save(0)", x.save(0), 1);
        Check.same("save(1)", x.save(1), 1);
    }

    private static void savedNumber() {
        Check.sentence("promise 34: returns the number of triples");
        Check.same("none", new TripleWays().save(0), 0);
        Check.same("one", Check.with(5).save(1), 1);
        Check.same("all 40", Check.upTo(40).save(1), 40);
    }

    /** A state with nothing as it is at first. */
    private static TripleWays rich() {
        TripleWays x = Check.with(5, 600, 77, 999);
        x.build(4);
        x.remove(600);
        x.drop(0);
        x.setWeight(17);
        for (int i = 0; i < 13; i++) {
            x.ask(Check.ask("**7") + i % 3);
        }
        return x;
    }

    private static void change(TripleWays x) {
        x.setWeight(3);
        x.build(1);
        x.add(1);
        x.remove(77);
        x.ask(1330);
        x.drop(4);
    }

    private static void savedState() {
        Check.sentence("promise 34: stores the present state");
        TripleWays x = rich();
        String saved = Check.seen(x);
        x.save(0);
        Check.alike("saving changes nothing", Check.seen(x), saved);
        change(x);
        x.restore(0);
        Check.alike("the state of the slot", Check.seen(x), saved);
        TripleWays y = rich();
        y.save(1);
        y.undo();
        y.undo();
        y.restore(1);
        Check.alike("not changed by undo", Check.seen(y), saved);
    }

    private static void savedAnew() {
        Check.sentence("promise 34: a save slot holds the last state that was stored in it");
        TripleWays x = Check.with(1, 2, 3);
        x.save(0);
        x.save(1);
        x.remove(1);
        Check.same("save(0)", x.save(0), 2);
        x.remove(2);
        Check.same("the slot 1 is as it was", x.restore(1), 3);
        Check.same("the slot 0 is new", x.restore(0), 2);
    }

    private static void noSuchSlotToRestore() {
        Check.sentence("promise 35: IndexOutOfBoundsException if there is no such save slot");
        TripleWays x = Check.with(5);
        for (int slot : NO_SLOTS) {
            Check.index("restore(" + slot + "), nothing saved", () -> x.restore(slot));
        }
        x.save(0);
        x.save(1);
        for (int slot : NO_SLOTS) {
            Check.index("restore(" + slot + ")", () -> x.restore(slot));
        }
        Check.same("undo is still there", x.undo(), 0);
    }

    private static void nothingSaved() {
        Check.sentence("promise 35: IllegalStateException if nothing has been saved in it");
        TripleWays x = Check.with(5);
        Check.state("restore(0)", () -> x.restore(0));
        Check.state("restore(1)", () -> x.restore(1));
        x.save(1);
        Check.state("restore(0), saved in 1", () -> x.restore(0));
        Check.same("restore(1)", x.restore(1), 1);
        TripleWays y = Check.with(5);
        y.save(0);
        Check.state("restore(1), saved in 0", () -> y.restore(1));
        Check.same("restore(0)", y.restore(0), 1);
        TripleWays none = new TripleWays();
        none.save(0);
        Check.same("a state without triples has been saved", none.restore(0), 0);
    }

    private static void restoredState() {
        Check.sentence("promise 35: replaces the state by the one in a save slot");
        TripleWays x = new TripleWays();
        String first = Check.seen(x);
        x.save(0);
        for (int i = 0; i < 40; i++) {
            x.add(i);
        }
        for (int i = 0; i < 14; i++) {
            x.ask(i);
        }
        String full = Check.seen(x);
        x.save(1);
        x.restore(0);
        Check.alike("from full to empty", Check.seen(x), first);
        x.restore(1);
        Check.alike("from empty to full", Check.seen(x), full);
        Check.state("the 41st", () -> x.add(40));
    }

    private static void restoredNumber() {
        Check.sentence("promise 35: returns the number of triples then");
        TripleWays x = Check.upTo(40);
        x.save(0);
        x.remove(7);
        Check.same("40", x.restore(0), 40);
        TripleWays y = new TripleWays();
        y.save(1);
        y.add(7);
        Check.same("none", y.restore(1), 0);
    }

    private static void statesForgotten() {
        Check.sentence("promise 35: forgets all remembered states");
        TripleWays x = Check.upTo(40);
        x.save(0);
        x.restore(0);
        Check.state("undo of 14", x::undo);
        Check.same("restore without remembered states", x.restore(0), 40);
        Check.state("undo of none", x::undo);
        for (int i = 0; i < 20; i++) {
            x.setWeight(i);
        }
        for (int i = 13; i >= 0; i--) {
            Check.same("undo", x.undo(), i);
            Check.same("the weight", x.weight(), i + 5);
        }
        Check.state("no more", x::undo);
        x.setWeight(50);
        x.restore(0);
        Check.state("undo of one", x::undo);
    }

    private static void slotKeepsIt() {
        Check.sentence("promise 35: the save slot keeps it");
        TripleWays x = rich();
        String saved = Check.seen(x);
        x.save(1);
        for (int i = 0; i < 3; i++) {
            change(x);
            x.restore(1);
            Check.alike("the state of the slot", Check.seen(x), saved);
        }
        x.add(1);
        x.save(0);
        x.restore(1);
        x.add(2);
        Check.same("the slot 0", x.restore(0), 4);
        Check.same("the slot 1", x.restore(1), 3);
    }

    private static void restoreIsNoAction() {
        Check.sentence("restore is not an action, nor is save");
        TripleWays x = Check.with(1, 2);
        x.save(0);
        Check.same("undo behind save", x.undo(), 1);
        x.restore(0);
        Check.state("undo behind restore", x::undo);
        x.add(3);
        Check.same("undo of the action", x.undo(), 0);
        Check.same("triples", x.about(0), 2);
        Check.state("not of restore", x::undo);
    }

    private static void slotsAndTextAreNoState() {
        Check.sentence("the state is everything but the text and the save slots");
        TripleWays x = new TripleWays();
        Check.write(x, "123");
        x.add(1);
        x.save(0);
        x.clearText();
        Check.write(x, "4*");
        x.undo();
        Check.same("undo leaves the slot", x.restore(0), 1);
        Check.same("restore leaves the text", x.errorPosition(true), 2);
        x.add(2);
        x.append('5');
        x.undo();
        Check.same("undo leaves the text", x.question(), Check.ask("4*5"));
        Check.same("the length", x.clearText(), 3);
    }
}
