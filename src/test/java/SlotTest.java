/** Promises 34 and 35: save slots. */
public final class SlotTest {

    public static void main(String[] args) {
        saving();
        restoring();
        keeping();
        twoSlots();
        Check.end();
    }

    private static void saving() {
        TripleWays x = new TripleWays();
        Check.index("save(-1)", () -> x.save(-1));
        Check.index("save(2)", () -> x.save(2));
        Check.index("restore(-1)", () -> x.restore(-1));
        Check.index("restore(2)", () -> x.restore(2));
        Check.state("restore(0), nothing saved", () -> x.restore(0));
        Check.state("restore(1), nothing saved", () -> x.restore(1));
        Check.same("save(1)", x.save(1), 0);
        Check.state("restore(0), nothing saved", () -> x.restore(0));
        x.add(5);
        x.add(6);
        Check.same("save(0)", x.save(0), 2);
        Check.same("save is no action", x.undo(), 1);
        Check.same("restore(1)", x.restore(1), 0);
        Check.same("restore(0)", x.restore(0), 2);
    }

    private static void restoring() {
        TripleWays x = Check.with(5, 600, 77);
        x.ask(1330);
        x.ask(Check.ask("*0*"));
        x.build(4);
        x.drop(0);
        x.setWeight(17);
        String saved = Check.seen(x);
        x.save(0);
        x.undo();
        x.undo();
        x.ask(3);
        x.remove(5);
        x.add(9);
        x.add(10);
        x.build(3);
        Check.write(x, "1*");
        Check.same("restore(0)", x.restore(0), 3);
        Check.alike("the saved state", Check.seen(x), saved);
        Check.state("remembered states are forgotten", x::undo);
        Check.same("the text is none of the state", x.clearText(), 2);
        x.add(11);
        Check.same("undo goes on", x.undo(), 0);
        Check.alike("the saved state", Check.seen(x), saved);
    }

    private static void keeping() {
        TripleWays x = Check.with(1, 2);
        x.save(1);
        x.restore(1);
        x.add(3);
        x.remove(1);
        x.ask(0);
        Check.same("the slot keeps it", x.restore(1), 2);
        Check.same("triple(NONE, 0)", x.triple(-1, 0), 1);
        Check.same("asked", x.about(5), 0);
        x.add(3);
        Check.same("saved anew", x.save(1), 3);
        x.undo();
        Check.same("undo leaves the slot", x.restore(1), 3);
        Check.state("a refused restore leaves the remembered states", () -> refused(x));
        Check.same("undo", x.undo(), 0);
    }

    private static int refused(TripleWays x) {
        x.add(4);
        return x.restore(0);
    }

    private static void twoSlots() {
        TripleWays x = Check.with(1);
        x.save(0);
        x.add(2);
        x.save(1);
        x.add(3);
        Check.same("restore(0)", x.restore(0), 1);
        Check.same("restore(1)", x.restore(1), 2);
        Check.same("restore(0)", x.restore(0), 1);
    }
}
