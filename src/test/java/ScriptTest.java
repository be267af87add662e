/** Promises 32 and 33: scripts and simulations. */
public final class ScriptTest {

    public static void main(String[] args) {
        wrongInputs();
        adding();
        removing();
        asking();
        building();
        dropping();
        tidying();
        tests();
        unknownGroups();
        several();
        changesNothing();
        simulations();
        longSimulation();
        Check.end();
    }

    private static TripleWays sample() {
        return Check.with(0, 111, 222, 333, 444, 555, 666, 777, 888, 999);
    }

    private static void wrongInputs() {
        TripleWays x = sample();
        Check.argument("no commands", () -> x.runScript(0, 0));
        Check.argument("four commands", () -> x.runScript(4, 0));
        Check.argument("runScript(-1)", () -> x.runScript(-1, 0));
        Check.argument("below 0", () -> x.runScript(1, -1));
        Check.argument("least", () -> x.runScript(3, Long.MIN_VALUE));
        Check.argument("six digits", () -> x.runScript(1, 100000));
        Check.argument("eleven digits", () -> x.runScript(2, 10000000000L));
        Check.argument("sixteen digits", () -> x.runScript(3, 1000000000000000L));
        Check.argument("greatest", () -> x.runScript(3, Long.MAX_VALUE));
        Check.same("five digits", x.runScript(1, 99999), 0);
        Check.same("ten digits", x.runScript(2, 9999999999L), 0);
        Check.same("fifteen digits", x.runScript(3, 999999999999999L), 0);
        Check.argument("simulate, no turns", () -> x.simulate(1, 0));
        Check.argument("simulate, 100 turns", () -> x.simulate(1, 100));
        Check.argument("simulate, -1 turns", () -> x.simulate(1, -1));
    }

    private static void works(TripleWays x, long group, boolean due) {
        Check.same("the command " + group, x.runScript(1, group), due ? -1 : 0);
    }

    private static void adding() {
        TripleWays x = sample();
        works(x, 10000, true);
        works(x, 10001, true);
        works(x, 10999, true);
        works(x, 11000, false);
        works(x, 19999, false);
        for (int i = 1; i <= 30; i++) {
            x.add(i);
        }
        works(x, 10111, true);
        works(x, 10030, true);
        works(x, 10031, false);
    }

    private static void removing() {
        TripleWays x = sample();
        works(x, 20111, true);
        works(x, 20112, true);
        works(x, 20999, true);
        works(x, 21000, false);
        Check.same("removed", x.runScript(3, 201117001070009L), 1);
        Check.same("removed, not there", x.runScript(3, 201127001000000L), 2);
    }

    private static void asking() {
        TripleWays x = sample();
        works(x, 30000, true);
        works(x, 31330, true);
        works(x, 30000 + Check.ask("123"), true);
        works(x, 31331, false);
        works(x, 39999, false);
        Check.same("an asked question costs", x.runScript(2, 3133090009L), 1);
        Check.same("an asked question costs", x.runScript(2, 3133090010L), -1);
        Check.same("a question out of range", x.runScript(2, 3133190000L), 0);
    }

    private static void building() {
        TripleWays x = sample();
        works(x, 40000, false);
        works(x, 41000, true);
        works(x, 45000, true);
        works(x, 46000, false);
        works(x, 49000, false);
        works(x, 41001, false);
        works(x, 41010, false);
        works(x, 41100, false);
        Check.same("built twice", x.runScript(2, 4100041000L), 1);
        Check.same("a built order answers", x.runScript(2, 42000L * 100000 + 80000 + Check.ask("*1*")), -1);
        Check.same("without it", x.runScript(1, 80000 + Check.ask("*1*")), 0);
    }

    private static void dropping() {
        TripleWays x = sample();
        works(x, 50000, true);
        works(x, 51000, false);
        works(x, 56000, false);
        works(x, 50001, false);
        works(x, 50010, false);
        works(x, 50100, false);
        x.build(5);
        works(x, 55000, true);
        works(x, 55001, false);
        Check.same("dropped twice", x.runScript(2, 5500055000L), 1);
        Check.same("dropped and built", x.runScript(2, 5500045000L), -1);
    }

    private static void tidying() {
        TripleWays x = sample();
        works(x, 60000, true);
        works(x, 60001, false);
        works(x, 61000, false);
        Check.same("the second one has nothing to do", x.runScript(2, 6000060000L), 1);
        x.setWeight(0);
        works(x, 60000, false);
        x.ask(Check.ask("*1*"));
        works(x, 60000, true);
        Check.same("tidy built the order 2", x.runScript(2, 6000042000L), 1);
        Check.same("tidy did not build the order 3", x.runScript(2, 6000043000L), -1);
    }

    private static void tests() {
        TripleWays x = sample();
        works(x, 70000, true);
        works(x, 70010, true);
        works(x, 70011, false);
        works(x, 70099, false);
        works(x, 70100, false);
        works(x, 71000, false);
        works(new TripleWays(), 70000, true);
        works(new TripleWays(), 70001, false);
        works(x, 80000 + Check.ask("1**"), true);
        works(x, 80000 + Check.ask("*1*"), false);
        works(x, 81330, false);
        works(x, 81331, false);
        works(x, 80000, true);
        works(new TripleWays(), 80000, false);
        works(x, 90000, true);
        x.ask(1330);
        works(x, 90009, false);
        works(x, 90010, true);
        works(x, 90999, true);
        works(x, 91000, false);
        works(x, 91010, false);
        for (int i = 0; i < 100; i++) {
            x.ask(1330);
        }
        works(x, 90999, false);
    }

    private static void unknownGroups() {
        TripleWays x = sample();
        works(x, 0, false);
        works(x, 9999, false);
        works(x, 1, false);
        Check.same("zeros before it", x.runScript(2, 10005), 0);
        Check.same("zeros before it", x.runScript(3, 1000510006L), 0);
        Check.same("zeros behind it", x.runScript(2, 1000500000L), 1);
    }

    private static void several() {
        TripleWays x = sample();
        Check.same("all three", x.runScript(3, 100017001120001L), -1);
        Check.same("the first one fails", x.runScript(3, 400001000110002L), 0);
        Check.same("the second one fails", x.runScript(3, 100014000010002L), 1);
        Check.same("the third one fails", x.runScript(3, 100011000240000L), 2);
        Check.same("what is left out", x.runScript(2, 1000170012L), 1);
        x.drop(0);
        x.add(12);
        Check.same("without orders", x.runScript(2, 4000070011L), -1);
    }

    private static void changesNothing() {
        TripleWays x = sample();
        x.ask(Check.ask("*1*"));
        String before = Check.seen(x);
        x.runScript(3, 100012011130000L);
        x.runScript(3, 410005000060000L);
        x.simulate(12345, 99);
        Check.alike("the state behind scripts", Check.seen(x), before);
        x.runScript(1, 20111);
        Check.same("each on a new copy", x.runScript(2, 2022270009L), -1);
        Check.same("each on a new copy", x.runScript(2, 2022270010L), 1);
        Check.same("no action", x.undo(), 10);
    }

    /** What a simulation answers is told by doing its turns on an object that is made alike. */
    private static void simulations() {
        for (int kind = 0; kind < 4; kind++) {
            long[] seeds = {0, 1, -1, 9, Long.MIN_VALUE, Long.MAX_VALUE, 123456789012345L, -77777777777L, 5000, 6001};
            for (long seed : seeds) {
                for (int m : new int[] {1, 2, 7, 30, 80, 99}) {
                    Check.same("simulate(" + seed + ", " + m + ") of kind " + kind,
                        made(kind).simulate(seed, m), Turns.done(made(kind), seed, m));
                }
            }
        }
    }

    private static void longSimulation() {
        TripleWays x = new TripleWays();
        for (int i = 0; i < 40; i++) {
            x.add(500 + i);
        }
        x.drop(0);
        x.setWeight(99);
        for (int i = 0; i < 30; i++) {
            x.ask(1330);
        }
        Check.same("no order, more than 999", x.simulate(4, 99), 999);
        x.build(1);
        x.build(2);
        Check.same("one turn, two orders", x.simulate(4, 1), Turns.done(x, 4, 1));
    }

    private static TripleWays made(int kind) {
        TripleWays x = kind == 0 ? new TripleWays() : sample();
        if (kind >= 2) {
            x.setWeight(kind == 2 ? 0 : 1);
            x.ask(Check.ask("**1"));
            x.ask(1330);
            for (int i = 0; i < 28; i++) {
                x.add(500 + i);
            }
            x.build(4);
        }
        return x;
    }
}
