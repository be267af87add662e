/** Promises 20 to 25: asking, building, dropping, tidying, the weight, undo. */
public final class ActionTest {

    public static void main(String[] args) {
        asking();
        building();
        dropping();
        tidying();
        tidyingDrops();
        settingWeights();
        undoing();
        undoingTooFar();
        undoingWhatIsForgotten();
        everyActionIsOne();
        Check.end();
    }

    private static void asking() {
        TripleWays x = Check.with(112, 123, 211, 321, 333, 444, 555, 611);
        Check.argument("ask(-1)", () -> x.ask(-1));
        Check.argument("ask(1331)", () -> x.ask(1331));
        Check.same("a refused ask is none", x.about(5), 0);
        Check.same("ask 1**", x.ask(Check.ask("1**")), 2);
        Check.same("its cost", x.about(4), 6);
        Check.same("ask **1", x.ask(Check.ask("**1")), 3);
        Check.same("its cost", x.about(4), 14);
        Check.same("ask ***", x.ask(1330), 8);
        Check.same("its cost", x.about(4), 22);
        Check.same("ask 000", x.ask(0), 0);
        Check.same("its cost", x.about(4), 26);
        Check.same("asked", x.about(5), 4);
        Check.same("remembered", x.about(6), 4);
        Check.same("remembered(3)", x.remembered(3), Check.ask("1**"));
        Check.same("no upkeep by asking", x.about(2), 1 + 2 + 3 + 3 + 4 * 4);
    }

    private static void building() {
        TripleWays x = Check.with(1, 2, 3);
        Check.index("build(-1)", () -> x.build(-1));
        Check.index("build(6)", () -> x.build(6));
        Check.state("build(0), kept", () -> x.build(0));
        Check.same("build(5)", x.build(5), 6);
        Check.same("kept", x.about(1), 33);
        Check.same("building", x.about(3), 6);
        Check.state("build(5), kept", () -> x.build(5));
        x.add(4);
        Check.same("build(2)", x.build(2), 12);
        Check.same("building", x.about(3), 18);
        Check.same("kept", x.about(1), 37);
        Check.same("build(3) of none", new TripleWays().build(3), 0);
    }

    private static void dropping() {
        TripleWays x = Check.with(1, 2, 3);
        x.build(4);
        int upkeep = x.about(2);
        Check.index("drop(-1)", () -> x.drop(-1));
        Check.index("drop(6)", () -> x.drop(6));
        Check.index("drop(32)", () -> x.drop(32));
        Check.state("drop(1), not kept", () -> x.drop(1));
        Check.same("drop(0)", x.drop(0), 1);
        Check.same("kept", x.about(1), 16);
        Check.state("drop(0), not kept", () -> x.drop(0));
        Check.same("drop(4)", x.drop(4), 0);
        Check.same("kept", x.about(1), 0);
        Check.same("building stays", x.about(3), 6);
        Check.same("upkeep stays", x.about(2), upkeep);
    }

    private static void tidying() {
        TripleWays x = Check.with(0, 111, 222, 333, 444, 555, 666, 777, 888, 999);
        x.setWeight(0);
        x.ask(Check.ask("*1*"));
        x.ask(Check.ask("*2*"));
        x.ask(Check.ask("**3"));
        Check.same("tidy builds 2", x.tidy(), 12);
        Check.same("kept", x.about(1), 5);
        Check.same("building", x.about(3), 40);
        Check.same("tidy builds 4", x.tidy(), 14);
        Check.same("tidy, a loss of 0 drops nothing", x.tidy(), -1);
        x.setWeight(1);
        Check.same("tidy drops 0", x.tidy(), 0);
        Check.same("kept", x.about(1), 20);
        Check.same("tidy, a loss of 0 drops nothing", x.tidy(), -1);
        x.setWeight(2);
        Check.same("tidy drops 4", x.tidy(), 4);
        Check.same("building", x.about(3), 80);
        Check.same("tidy is one action", x.undo(), 13);
        Check.same("kept", x.about(1), 20);
        Check.same("asked", x.about(5), 3);
    }

    private static void tidyingDrops() {
        TripleWays x = new TripleWays();
        x.build(3);
        x.setWeight(0);
        Check.same("tidy does nothing", x.tidy(), -1);
        x.setWeight(1);
        Check.same("tidy drops the lowest", x.tidy(), 0);
        Check.same("tidy drops the other one", x.tidy(), 3);
        Check.same("tidy has no more", x.tidy(), -1);
        Check.same("each is an action", x.undo(), 6);
    }

    private static void settingWeights() {
        TripleWays x = new TripleWays();
        Check.argument("setWeight(-1)", () -> x.setWeight(-1));
        Check.argument("setWeight(100)", () -> x.setWeight(100));
        Check.same("weight()", x.weight(), 4);
        Check.same("setWeight(99)", x.setWeight(99), 4);
        Check.same("setWeight(0)", x.setWeight(0), 99);
        Check.same("weight()", x.weight(), 0);
        Check.same("undo", x.undo(), 1);
        Check.same("weight()", x.weight(), 99);
        Check.same("undo", x.undo(), 0);
        Check.same("weight()", x.weight(), 4);
    }

    private static void undoing() {
        TripleWays x = new TripleWays();
        Check.state("undo of none", x::undo);
        String[] seen = new String[8];
        seen[0] = Check.seen(x);
        x.add(505);
        seen[1] = Check.seen(x);
        x.ask(Check.ask("5*5"));
        seen[2] = Check.seen(x);
        x.build(1);
        seen[3] = Check.seen(x);
        x.drop(0);
        seen[4] = Check.seen(x);
        x.setWeight(50);
        seen[5] = Check.seen(x);
        x.tidy();
        seen[6] = Check.seen(x);
        x.remove(505);
        for (int i = 6; i >= 0; i--) {
            Check.same("undo", x.undo(), i);
            Check.alike("the state before", Check.seen(x), seen[i]);
        }
        Check.state("undo of none", x::undo);
        Check.alike("a refused undo", Check.seen(x), seen[0]);
    }

    private static void undoingTooFar() {
        TripleWays x = new TripleWays();
        for (int i = 0; i < 20; i++) {
            x.add(i);
        }
        for (int i = 13; i >= 0; i--) {
            Check.same("undo", x.undo(), i);
            Check.same("triples", x.about(0), i + 6);
        }
        Check.state("the 15th undo", x::undo);
        for (int i = 0; i < 16; i++) {
            x.setWeight(i);
            x.undo();
        }
        x.add(100);
        x.add(101);
        Check.same("undo behind undo", x.undo(), 1);
        Check.same("the last triple", x.triple(-1, 6), 100);
    }

    private static void undoingWhatIsForgotten() {
        TripleWays x = new TripleWays();
        for (int i = 0; i < 12; i++) {
            x.ask(i);
        }
        x.ask(500);
        Check.same("the oldest one is forgotten", x.remembered(11), 1);
        x.undo();
        Check.same("and comes back", x.remembered(11), 0);
        Check.same("remembered(0)", x.remembered(0), 11);
        Check.same("asked", x.about(5), 12);
    }

    private static void everyActionIsOne() {
        TripleWays x = new TripleWays();
        x.setWeight(0);
        Check.write(x, "123");
        x.add(1);
        x.add(1);
        x.remove(7);
        x.addAll();
        x.addAll();
        x.ask(0);
        x.tidy();
        x.setWeight(0);
        x.save(0);
        x.advised();
        x.bestSet();
        x.runScript(1, 10005);
        x.simulate(5, 5);
        x.append('5');
        x.clearText();
        Check.same("nine actions", x.undo(), 8);
    }
}
