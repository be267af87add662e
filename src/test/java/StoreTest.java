/** Promises 1, 6 to 9 and 17 to 19: a new object, what there is, adding and removing. */
public final class StoreTest {

    public static void main(String[] args) {
        newObject();
        looks();
        adding();
        upkeep();
        removing();
        fullStore();
        addingAll();
        addingTooMany();
        places();
        questionsRemembered();
        weights();
        Check.end();
    }

    private static void newObject() {
        TripleWays x = new TripleWays();
        Check.alike("a new object", Check.seen(x),
            "0 1 0 0 0 0 0 0 weight 4 triples -1 remembered -1");
        Check.argument("about(-1)", () -> x.about(-1));
        Check.argument("about(8)", () -> x.about(8));
        Check.state("undo() of a new object", x::undo);
        Check.state("restore(0) of a new object", () -> x.restore(0));
        Check.state("restore(1) of a new object", () -> x.restore(1));
        Check.same("the text of a new object", x.clearText(), 0);
    }

    private static void looks() {
        TripleWays x = new TripleWays();
        int[] due = {0, 1, 2, 2, 3, 3, 3, 3, 4, 4, 4, 4, 4, 4, 4, 4, 5};
        for (int n = 0; n <= 40; n++) {
            int look = n < due.length ? due[n] : n < 32 ? 5 : 6;
            Check.same("look(" + n + ")", x.about(7), look);
            Check.same("triples", x.about(0), n);
            if (n < 40) {
                x.add(7 * n);
            }
        }
    }

    private static void adding() {
        TripleWays x = new TripleWays();
        Check.argument("add(-1)", () -> x.add(-1));
        Check.argument("add(1000)", () -> x.add(1000));
        Check.state("a refused add is no action", x::undo);
        Check.same("add(0)", x.add(0), 1);
        Check.same("add(999)", x.add(999), 1);
        Check.same("add(999) again", x.add(999), 0);
        Check.same("triples", x.about(0), 2);
        Check.same("upkeep, 1 and 2", x.about(2), 3);
        Check.same("an add of what is there is an action", x.undo(), 2);
        Check.same("triples", x.about(0), 2);
        Check.same("undo of add(999)", x.undo(), 1);
        Check.same("triples", x.about(0), 1);
    }

    private static void upkeep() {
        TripleWays x = new TripleWays();
        x.build(3);
        x.build(5);
        x.add(1);
        Check.same("three orders, n before is 0", x.about(2), 3);
        x.add(2);
        Check.same("n before is 1", x.about(2), 9);
        x.add(3);
        Check.same("n before is 2", x.about(2), 18);
        x.remove(2);
        Check.same("n before is 3", x.about(2), 27);
        x.drop(0);
        x.drop(3);
        x.drop(5);
        x.add(2);
        Check.same("no order, no upkeep", x.about(2), 27);
        x.remove(1);
        Check.same("no order, no upkeep", x.about(2), 27);
        Check.same("building nothing costs nothing", x.about(3), 0);
    }

    private static void removing() {
        TripleWays x = Check.with(5, 4, 3, 2);
        Check.argument("remove(-1)", () -> x.remove(-1));
        Check.argument("remove(1000)", () -> x.remove(1000));
        int before = x.about(2);
        Check.same("remove(6)", x.remove(6), 0);
        Check.same("remove(0), which an empty place may look like", x.remove(0), 0);
        Check.same("it costs nothing", x.about(2), before);
        Check.same("remove(4)", x.remove(4), 1);
        Check.same("it costs look(4) + 1", x.about(2), before + 4);
        Check.same("remove(4) again", x.remove(4), 0);
        came(x, 5, 3, 2);
        x.add(4);
        came(x, 5, 3, 2, 4);
        x.remove(4);
        x.remove(5);
        came(x, 3, 2);
        x.undo();
        came(x, 5, 3, 2);
    }

    private static void came(TripleWays x, int... due) {
        for (int i = 0; i < due.length; i++) {
            Check.same("triple(NONE, " + i + ")", x.triple(-1, i), due[i]);
        }
        Check.same("triple behind the last one", x.triple(-1, due.length), -1);
        Check.same("triples", x.about(0), due.length);
    }

    private static void fullStore() {
        TripleWays x = new TripleWays();
        for (int i = 0; i < 40; i++) {
            Check.same("add", x.add(999 - i), 1);
        }
        String before = Check.seen(x);
        Check.state("add to 40", () -> x.add(0));
        Check.argument("add(1000) to 40", () -> x.add(1000));
        Check.same("add of one that is there to 40", x.add(960), 0);
        Check.alike("the full store", Check.seen(x), before);
        Check.same("remove", x.remove(999), 1);
        Check.same("the last one", x.triple(-1, 38), 960);
        Check.same("the one before", x.triple(-1, 37), 961);
        Check.same("add to 39", x.add(0), 1);
        Check.same("the last one", x.triple(-1, 39), 0);
        Check.same("the first one", x.triple(-1, 0), 998);
        Check.state("add to 40", () -> x.add(999));
    }

    private static void addingAll() {
        TripleWays x = new TripleWays();
        Check.state("addAll, no text", x::addAll);
        Check.write(x, "12*");
        Check.state("addAll, a question", x::addAll);
        Check.state("a refused addAll is no action", x::undo);
        Check.write(x, "321,123,321,007");
        Check.same("addAll", x.addAll(), 3);
        came(x, 321, 123, 7);
        Check.same("upkeep 1 + 2 + 3", x.about(2), 6);
        Check.same("addAll again", x.addAll(), 0);
        Check.same("upkeep of nothing", x.about(2), 6);
        Check.same("the text is kept", x.errorPosition(false), -1);
        Check.same("one action each", x.undo(), 1);
        Check.same("one action each", x.undo(), 0);
        came(x);
        Check.same("undo keeps the text", x.clearText(), 15);
    }

    private static void addingTooMany() {
        TripleWays x = new TripleWays();
        for (int i = 0; i < 38; i++) {
            x.add(i);
        }
        Check.write(x, "500,037,501,502,000,503");
        int before = x.about(2);
        Check.same("addAll up to 40", x.addAll(), 2);
        Check.same("upkeep of two", x.about(2), before + 14);
        Check.same("triples", x.about(0), 40);
        Check.same("the 39th", x.triple(-1, 38), 500);
        Check.same("the 40th", x.triple(-1, 39), 501);
        Check.same("addAll to 40", x.addAll(), 0);
    }

    private static void places() {
        TripleWays x = Check.with(213, 123, 312, 131, 231);
        orderIs(x, -1, 213, 123, 312, 131, 231);
        orderIs(x, 0, 123, 131, 213, 231, 312);
        orderIs(x, 1, 131, 123, 231, 213, 312);
        orderIs(x, 2, 213, 312, 123, 131, 231);
        orderIs(x, 3, 312, 213, 123, 131, 231);
        orderIs(x, 4, 131, 231, 312, 123, 213);
        orderIs(x, 5, 131, 231, 312, 213, 123);
        TripleWays y = Check.with(211, 112);
        orderIs(y, 2, 112, 211);
        orderIs(y, 3, 211, 112);
        TripleWays z = Check.with(121, 211);
        orderIs(z, 4, 121, 211);
        orderIs(z, 5, 211, 121);
        Check.index("triple(6, 0)", () -> x.triple(6, 0));
        Check.index("triple(-2, 0)", () -> x.triple(-2, 0));
        Check.index("triple(6, -1), the order is named first", () -> x.triple(6, -1));
        Check.argument("triple(-1, -1)", () -> x.triple(-1, -1));
        Check.argument("triple(0, -1)", () -> x.triple(0, -1));
        Check.argument("triple(5, least)", () -> x.triple(5, Integer.MIN_VALUE));
        Check.same("triple(0, greatest)", x.triple(0, Integer.MAX_VALUE), -1);
        Check.same("triple(-1, greatest)", x.triple(-1, Integer.MAX_VALUE), -1);
    }

    private static void orderIs(TripleWays x, int q, int... due) {
        for (int i = 0; i < due.length; i++) {
            Check.same("triple(" + q + ", " + i + ")", x.triple(q, i), due[i]);
        }
        Check.same("triple(" + q + ") behind the last one", x.triple(q, due.length), -1);
    }

    private static void questionsRemembered() {
        TripleWays x = new TripleWays();
        Check.same("remembered(0), none", x.remembered(0), -1);
        for (int i = 0; i < 15; i++) {
            x.ask(100 + i);
            Check.same("asked", x.about(5), i + 1);
            Check.same("remembered", x.about(6), Math.min(12, i + 1));
            Check.same("remembered(0)", x.remembered(0), 100 + i);
            Check.same("behind the oldest", x.remembered(Math.min(12, i + 1)), -1);
        }
        for (int i = 0; i < 12; i++) {
            Check.same("remembered(" + i + ")", x.remembered(i), 114 - i);
        }
        x.ask(114);
        Check.same("asked twice, remembered twice", x.remembered(1), 114);
        Check.same("the oldest one", x.remembered(11), 104);
        Check.argument("remembered(-1)", () -> x.remembered(-1));
        Check.same("remembered(greatest)", x.remembered(Integer.MAX_VALUE), -1);
    }

    private static void weights() {
        TripleWays x = new TripleWays();
        Check.same("weight()", x.weight(), 4);
        x.setWeight(31);
        Check.same("weight()", x.weight(), 31);
    }
}
