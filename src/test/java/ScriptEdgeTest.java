/** The boundary cases of promises 32 and 33: a test for each sentence. */
public final class ScriptEdgeTest {

    public static void main(String[] args) {
        oneToThreeCommands();
        atMostFiveDigitsEach();
        notNegative();
        highestGroupFirst();
        addCommand();
        addCommandFull();
        removeCommand();
        askCommand();
        buildCommand();
        dropCommand();
        tidyCommand();
        manyCommand();
        cheapCommand();
        costsCommand();
        anyOtherGroup();
        anotherDigitForZero();
        firstThatFails();
        scriptOnCopy();
        oneToNinetyNineTurns();
        kindsOfTurns();
        triplesOfTurns();
        removedInTurns();
        questionsOfTurns();
        aboveTen();
        leftOut();
        longOverflow();
        keptAtTheEnd();
        countedInTurns();
        nineHundredNinetyNine();
        simulationOnCopy();
        Check.end();
    }

    /** Runs the commands, written with blanks between. */
    private static int run(TripleWays x, String commands) {
        String[] groups = commands.split(" ");
        return x.runScript(groups.length, Long.parseLong(String.join("", groups)));
    }

    private static void works(TripleWays x, String... groups) {
        for (String group : groups) {
            Check.same("the command " + group, run(x, group), -1);
        }
    }

    private static void fails(TripleWays x, String... groups) {
        for (String group : groups) {
            Check.same("the command " + group, run(x, group), 0);
        }
    }

    // ---- runScript, its arguments

    private static void oneToThreeCommands() {
        Check.sentence("promise 32: n is 1 to 3");
        TripleWays x = new TripleWays();
        for (int n : new int[] {0, 4, -1, Integer.MIN_VALUE, Integer.MAX_VALUE}) {
            Check.argument("runScript(" + n + ", 0)", () -> x.runScript(n, 0));
            Check.argument("runScript(" + n + ", 70000)", () -> x.runScript(n, 70000));
            Check.argument("runScript(" + n + ", -1)", () -> x.runScript(n, -1));
        }
        Check.same("one", run(x, "70000"), -1);
        Check.same("two", run(x, "70000 70000"), -1);
        Check.same("three", run(x, "70000 70000 70000"), -1);
    }

    private static void atMostFiveDigitsEach() {
        Check.sentence("promise 32: IllegalArgumentException if script has more than 5 * n digits");
        TripleWays x = new TripleWays();
        long[] tooLong = {100000L, 10000000000L, 1000000000000000L};
        for (int n = 1; n <= 3; n++) {
            int many = n;
            long first = tooLong[n - 1];
            Check.argument("runScript(" + n + ", " + first + ")", () -> x.runScript(many, first));
            Check.argument("runScript(" + n + ", the greatest)", () -> x.runScript(many, Long.MAX_VALUE));
            Check.same("runScript(" + n + ", " + (first - 1) + ")", x.runScript(n, first - 1), 0);
        }
        Check.argument("a good command too many", () -> x.runScript(1, 7000070000L));
        Check.argument("a good command too many", () -> x.runScript(2, 700007000070000L));
        Check.argument("what 32 bits would not tell", () -> x.runScript(1, (1L << 32) + 70000));
    }

    private static void notNegative() {
        Check.sentence("promise 32: IllegalArgumentException if script is negative");
        TripleWays x = new TripleWays();
        for (int n = 1; n <= 3; n++) {
            int many = n;
            for (long script : new long[] {-1, -70000, Long.MIN_VALUE, Long.MIN_VALUE + 70000}) {
                Check.argument("runScript(" + n + ", " + script + ")", () -> x.runScript(many, script));
            }
            Check.same("runScript(" + n + ", 0)", x.runScript(n, 0), 0);
        }
    }

    private static void highestGroupFirst() {
        Check.sentence("promise 32: the first command is the highest group, with zeros before it");
        TripleWays x = Check.with(5);
        Check.same("two, five digits", x.runScript(2, 70000), 0);
        Check.same("three, five digits", x.runScript(3, 70000), 0);
        Check.same("three, ten digits", x.runScript(3, 7000070000L), 0);
        Check.same("add, then two triples", run(x, "10006 70002"), -1);
        Check.same("two triples, then add", run(x, "70002 10006"), 0);
        Check.same("remove, add, then two triples", run(x, "20005 10006 70002"), 2);
        Check.same("build, drop, build", run(x, "41000 51000 41000"), -1);
        Check.same("drop, build, drop", run(x, "51000 41000 51000"), 0);
    }

    // ---- runScript, its commands

    private static void addCommand() {
        Check.sentence("promise 32: 1 0 t t t: add(ttt)");
        TripleWays x = Check.with(5);
        works(x, "10000", "10005", "10999");
        fails(x, "11000", "11005", "19999");
        Check.same("000 is added", run(x, "10000 70002"), -1);
        Check.same("999 is added, once", run(x, "10999 10999 70003"), 2);
        Check.same("005 is there", run(x, "10005 70002"), 1);
    }

    private static void addCommandFull() {
        Check.sentence("promise 32: add fails if it would throw an exception");
        TripleWays x = Check.upTo(40);
        fails(x, "10040", "10999");
        works(x, "10000", "10039");
        Check.same("room is made", run(x, "20000 10999"), -1);
        Check.same("for one", run(x, "20000 10999 10998"), 2);
        TripleWays y = Check.upTo(39);
        Check.same("the 40th", run(y, "10999 70040"), -1);
        Check.same("the 41st", run(y, "10999 10998"), 1);
    }

    private static void removeCommand() {
        Check.sentence("promise 32: 2 0 t t t: remove(ttt)");
        TripleWays x = Check.with(0, 999);
        works(x, "20000", "20999", "20500");
        fails(x, "21000", "21999", "29999");
        Check.same("000 is removed", run(x, "20000 70002"), 1);
        Check.same("999 is removed", run(x, "20999 70002"), 1);
        Check.same("500 is not there", run(x, "20500 70002"), -1);
        works(new TripleWays(), "20000");
    }

    private static void askCommand() {
        Check.sentence("promise 32: 3 q q q q: ask(qqqq)");
        TripleWays x = Check.diagonal();
        works(x, "30000", "31330");
        fails(x, "31331", "32000", "39999");
        Check.same("000 costs 5", run(x, "30000 90004"), 1);
        Check.same("000 costs 5", run(x, "30000 90005"), -1);
        Check.same("*** costs 10", run(x, "31330 90009"), 1);
        Check.same("*** costs 10", run(x, "31330 90010"), -1);
        Check.same("both", run(x, "31330 30000 90014"), 2);
        x.setWeight(0);
        Check.same("*0* is remembered: tidy builds the order 2", run(x, "31220 60000 52000"), -1);
        Check.same("*09 is remembered: tidy builds the order 3", run(x, "31219 60000 53000"), -1);
    }

    private static void buildCommand() {
        Check.sentence("promise 32: 4 o 0 0 0: build(o); it fails if it would throw an exception");
        TripleWays x = Check.diagonal();
        works(x, "41000", "42000", "43000", "44000", "45000");
        fails(x, "40000", "46000", "47000", "48000", "49000");
        Check.same("built twice", run(x, "43000 43000"), 1);
        Check.same("it is kept", run(x, "43000 53000"), -1);
        x.drop(0);
        works(x, "40000");
    }

    private static void dropCommand() {
        Check.sentence("promise 32: 5 o 0 0 0: drop(o); it fails if it would throw an exception");
        TripleWays x = Check.diagonal();
        works(x, "50000");
        fails(x, "51000", "52000", "53000", "54000", "55000", "56000", "57000", "58000", "59000");
        Check.same("dropped twice", run(x, "50000 50000"), 1);
        Check.same("it is not kept", run(x, "50000 40000"), -1);
        x.build(5);
        works(x, "55000");
        Check.same("the last one too", run(x, "50000 55000"), -1);
    }

    private static void tidyCommand() {
        Check.sentence("promise 32: 6 0 0 0 0: tidy(); succeeds if it does something");
        TripleWays x = Check.diagonal();
        Check.same("it drops 0, then it has nothing to do", run(x, "60000 60000"), 1);
        Check.same("it dropped 0", run(x, "60000 40000"), -1);
        x.setWeight(0);
        fails(x, "60000");
        x.ask(Check.ask("*1*"));
        Check.same("it builds 2, then it has nothing to do", run(x, "60000 60000"), 1);
        Check.same("it built 2", run(x, "60000 52000"), -1);
        TripleWays y = Check.diagonal();
        y.setWeight(0);
        y.drop(0);
        y.ask(Check.ask("1**"));
        Check.same("it builds 0", run(y, "60000 50000"), -1);
    }

    private static void manyCommand() {
        Check.sentence("promise 32: 7 0 0 n n: succeeds if there are at least nn triples");
        works(new TripleWays(), "70000");
        fails(new TripleWays(), "70001", "70099");
        works(Check.with(5), "70000", "70001");
        fails(Check.with(5), "70002", "70010");
        works(Check.upTo(40), "70039", "70040");
        fails(Check.upTo(40), "70041", "70099");
    }

    private static void cheapCommand() {
        Check.sentence("promise 32: 8 q q q q: succeeds if the question qqqq costs less than a full walk");
        TripleWays x = Check.with(111, 222, 333, 444);
        // look(4) is 3: 5** costs 3; 4** would cost 4, as much as a full walk.
        works(x, "80725", "80000");
        fails(x, "80604", "81330", "81331", "82000", "89999");
        Check.same("without the order", run(x, "50000 80725"), 1);
        Check.same("with three triples and look(3)", run(x, "20111 80725"), -1);
        Check.same("with two triples", run(x, "20111 20222 80725"), 2);
        Check.same("it asks nothing", run(x, "80725 90000"), -1);
        fails(new TripleWays(), "80000", "81330");
    }

    private static void costsCommand() {
        Check.sentence("promise 32: 9 0 c c c: succeeds if the costs for answers so far are at most ccc");
        TripleWays x = new TripleWays();
        works(x, "90000", "90001", "90999");
        x.add(5);
        x.ask(1330);
        fails(x, "90000");
        works(x, "90001", "90002", "90999");
        TripleWays y = Check.upTo(37);
        for (int i = 0; i < 27; i++) {
            y.ask(1330);
        }
        fails(y, "90998");
        works(y, "90999");
        Check.same("one more", run(y, "31330 90999"), 1);
        y.ask(1330);
        fails(y, "90999", "90000");
    }

    private static void anyOtherGroup() {
        Check.sentence("promise 32: any other group fails");
        TripleWays x = Check.with(5);
        fails(x, "00000", "00001", "00005", "00999", "01000", "07000", "09999");
    }

    private static void anotherDigitForZero() {
        Check.sentence("promise 32: a group with another digit where a 0 is written fails");
        TripleWays x = Check.with(5);
        x.ask(1330);
        fails(x, "11005", "12005", "19005", "21005", "29005");
        fails(x, "41001", "41010", "41100", "41999", "50001", "50010", "50100", "50999");
        fails(x, "60001", "60010", "60100", "61000", "69999");
        fails(x, "70100", "70101", "71000", "71001", "79001", "71100");
        fails(x, "91000", "91001", "92001", "99999", "99001");
    }

    private static void firstThatFails() {
        Check.sentence("promise 32: the index, from 0, of the first command that fails; NONE if all succeed");
        TripleWays x = new TripleWays();
        Check.same("none of one", run(x, "70000"), TripleWays.NONE);
        Check.same("none of three", run(x, "70000 70000 70000"), TripleWays.NONE);
        Check.same("all of three", run(x, "00000 00000 00000"), 0);
        Check.same("the second and third", run(x, "70000 00000 00000"), 1);
        Check.same("the first and third", run(x, "00000 70000 00000"), 0);
        Check.same("the third", run(x, "70000 70000 00000"), 2);
        Check.same("the last of two", run(x, "70000 00000"), 1);
        Check.same("the only one", run(x, "00000"), 0);
    }

    private static void scriptOnCopy() {
        Check.sentence("promise 32: runs a script on a copy of the state");
        TripleWays x = Check.upTo(39);
        x.setWeight(1);
        for (int i = 0; i < 12; i++) {
            x.ask(i);
        }
        String before = Check.seen(x);
        run(x, "10999 20000 31330");
        Check.alike("the state", Check.seen(x), before);
        run(x, "41000 50000 60000");
        Check.alike("the state", Check.seen(x), before);
        Check.same("the next script starts anew", run(x, "10999 70040"), -1);
        Check.same("the next script starts anew", run(x, "70040"), 0);
        x.undo();
        Check.same("a script is no action", x.about(5), 11);
    }

    // ---- simulate

    private static void oneToNinetyNineTurns() {
        Check.sentence("promise 33: m is 1 to 99");
        TripleWays x = Check.diagonal();
        for (int m : new int[] {0, 100, -1, Integer.MIN_VALUE, Integer.MAX_VALUE}) {
            Check.argument("simulate(5, " + m + ")", () -> x.simulate(5, m));
        }
        // The first r asks ***, and so does the second one.
        long seed = Turns.seed(Turns.asking(15, 15, 15), Turns.asking(15, 15, 15));
        Check.same("one turn", x.simulate(seed, 1), 1010);
        Check.same("two turns", x.simulate(seed, 2), 1020);
        for (int m = 95; m <= 99; m++) {
            Check.same(m + " turns", Check.upTo(5).simulate(3, m), Turns.done(Check.upTo(5), 3, m));
        }
    }

    private static void kindsOfTurns() {
        Check.sentence("promise 33: by r % 16: 0 to 4 add, 5 remove, 6 to 13 ask, 14 and 15 tidy");
        int all = Turns.asking(15, 15, 15);
        for (int kind = 0; kind < 16; kind++) {
            // The triple is 333, or the question is ***; *** is asked behind it.
            long seed = Turns.seed(65520 + kind, all);
            int due = kind <= 4 ? 1002 : kind == 5 ? 1001 : kind <= 13 ? 1002 : 1;
            Check.same("kind " + kind + ", of one triple", Check.with(0).simulate(seed, 2), due);
            int of = kind <= 4 ? 1002 : kind == 5 ? 1001 : kind <= 13 ? 1004 : 2;
            Check.same("kind " + kind + ", of two triples", Check.with(0, 333).simulate(seed, 2), of);
        }
    }

    private static void triplesOfTurns() {
        Check.sentence("promise 33: t is 100 * (r / 16 % 4) + 10 * (r / 64 % 4) + r / 256 % 4");
        for (int a = 0; a < 4; a++) {
            for (int b = 0; b < 4; b++) {
                for (int c = 0; c < 4; c++) {
                    // The bits above those of t are all set: they tell nothing.
                    int r = (Integer.MAX_VALUE - 1023) + 16 * a + 64 * b + 256 * c;
                    TripleWays x = Check.with(444, 555, 666, 777, 888, 999);
                    // Then it is asked for: look(7) is 3, and it is there.
                    Check.same("t is " + a + b + c, x.simulate(Turns.seed(r, Turns.asking(a, b, c)), 2), 1004);
                }
            }
        }
    }

    private static void removedInTurns() {
        Check.sentence("promise 33: 5: remove(t)");
        for (int triple : new int[] {0, 1, 10, 100, 123, 333}) {
            int a = triple / 100;
            int b = triple / 10 % 10;
            int c = triple % 10;
            TripleWays x = Check.with(444, 555, 666, triple, 777, 888, 999);
            int r = 5 + 16 * a + 64 * b + 256 * c;
            Check.same("removed " + triple, x.simulate(Turns.seed(r, Turns.asking(a, b, c)), 2), 1003);
            Check.same("six are left of " + triple, x.simulate(Turns.seed(r, Turns.asking(15, 15, 15)), 2), 1006);
        }
    }

    private static void questionsOfTurns() {
        Check.sentence("promise 33: ask(121 * a + 11 * b + c), a r / 16 % 16, b r / 256 % 16, c r / 4096 % 16");
        for (int digit = 0; digit < 10; digit++) {
            TripleWays x = Check.diagonal();
            x.build(2);
            x.build(4);
            x.remove(111 * digit);
            // look(9) is 4: the removed digit alone has no answer.
            for (int v = 0; v < 10; v++) {
                int due = 3000 + (v == digit ? 4 : 5);
                Check.same("a is " + v, x.simulate(Turns.seed(Turns.asking(v, 15, 15)), 1), due);
                Check.same("b is " + v, x.simulate(Turns.seed(Turns.asking(15, v, 15)), 1), due);
                Check.same("c is " + v, x.simulate(Turns.seed(Turns.asking(15, 15, v)), 1), due);
            }
        }
    }

    private static void aboveTen() {
        Check.sentence("promise 33: 10 in place of what is above 10");
        TripleWays x = Check.diagonal();
        x.build(2);
        x.build(4);
        for (int v = 9; v <= 15; v++) {
            int due = v == 9 ? 3005 : 3010;
            Check.same("a is " + v, x.simulate(Turns.seed(Turns.asking(v, 10, 15)), 1), due);
            Check.same("b is " + v, x.simulate(Turns.seed(Turns.asking(11, v, 10)), 1), due);
            Check.same("c is " + v, x.simulate(Turns.seed(Turns.asking(10, 11, v)), 1), due);
        }
    }

    private static void leftOut() {
        Check.sentence("promise 33: what would throw an exception is left out");
        TripleWays x = new TripleWays();
        for (int i = 0; i < 40; i++) {
            x.add(500 + i);
        }
        int all = Turns.asking(15, 15, 15);
        // 333 would be the 41st.
        Check.same("the 41st, then ***", x.simulate(Turns.seed(65520, all), 2), 1040);
        Check.same("the 41st, then 333", x.simulate(Turns.seed(65520, Turns.asking(3, 3, 3)), 2), 1006);
        x.remove(500);
        Check.same("the 40th, then ***", x.simulate(Turns.seed(65520, all), 2), 1040);
        Check.same("the 40th, then 333", x.simulate(Turns.seed(65520, Turns.asking(3, 3, 3)), 2), 1007);
    }

    private static void longOverflow() {
        Check.sentence("promise 33: seed is any long; x * 6364136223846793005 + 1442695040888963407 with long overflow");
        long[] seeds = {0, 1, -1, Long.MAX_VALUE, Long.MIN_VALUE, Long.MAX_VALUE - 1, 1L << 62, -(1L << 62), 1L << 32};
        for (long seed : seeds) {
            for (int m : new int[] {1, 5, 40, 99}) {
                Check.same("simulate(" + seed + ", " + m + ")", Check.upTo(9).simulate(seed, m),
                    Turns.done(Check.upTo(9), seed, m));
            }
        }
        // An r whose highest bit is set: x is negative, and r is not.
        TripleWays x = Check.diagonal();
        Check.same("a negative x", x.simulate(Turns.seed((1 << 30) + Turns.asking(15, 15, 15)), 1), 1010);
        Check.same("the greatest r", x.simulate(Turns.seed(Integer.MAX_VALUE), 1), 0);
        Check.same("the least r", x.simulate(Turns.seed(0), 1), 1000);
    }

    private static void keptAtTheEnd() {
        Check.sentence("promise 33: returns 1000 * (the kept orders at the end, how many)");
        TripleWays x = Check.diagonal();
        long tidying = Turns.seed(14, 15);
        Check.same("one turn drops it", x.simulate(tidying, 1), 0);
        for (int q = 1; q < 6; q++) {
            x.build(q);
        }
        Check.same("six, one is dropped", x.simulate(tidying, 1), 5000);
        Check.same("six, two are dropped", x.simulate(tidying, 2), 4000);
        Check.same("six, none is dropped", x.simulate(Turns.seed(Turns.asking(1, 1, 1)), 1), 6005);
        x.setWeight(0);
        x.drop(2);
        x.drop(3);
        x.ask(Check.ask("*1*"));
        Check.same("four, one is built", x.simulate(tidying, 1), 5000);
    }

    private static void countedInTurns() {
        Check.sentence("promise 33: and what was counted for answers in the turns");
        TripleWays x = Check.diagonal();
        for (int i = 0; i < 120; i++) {
            x.ask(1330);
        }
        Check.same("not what was counted before", x.simulate(Turns.seed(Turns.asking(1, 15, 15)), 1), 1005);
        Check.same("no question", x.simulate(Turns.seed(0), 1), 1000);
    }

    private static TripleWays without() {
        TripleWays x = Check.upTo(37);
        x.drop(0);
        x.setWeight(99);
        return x;
    }

    private static void nineHundredNinetyNine() {
        Check.sentence("promise 33: or 999 if more");
        Check.same("the turns of 7", Turns.counted(without(), 7, 50), 998);
        Check.same("998", without().simulate(7, 50), 998);
        Check.same("the turns of 27", Turns.counted(without(), 27, 50), 999);
        Check.same("999", without().simulate(27, 50), 999);
        Check.same("the turns of 311", Turns.counted(without(), 311, 50), 1000);
        Check.same("1000", without().simulate(311, 50), 999);
        Check.same("far more", without().simulate(311, 99), 999);
    }

    private static void simulationOnCopy() {
        Check.sentence("promise 33: simulates on a copy of the state");
        TripleWays x = Check.upTo(38);
        for (int i = 0; i < 12; i++) {
            x.ask(i);
        }
        String before = Check.seen(x);
        int first = x.simulate(77, 99);
        Check.alike("the state", Check.seen(x), before);
        Check.same("the same again", x.simulate(77, 99), first);
        x.undo();
        Check.same("a simulation is no action", x.about(5), 11);
    }
}
