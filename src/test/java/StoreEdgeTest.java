/** The boundary cases of promises 1, 6 to 9 and 17 to 19: a test for each sentence. */
public final class StoreEdgeTest {

    private static final int[] NO_TRIPLES = {-1, 1000, Integer.MIN_VALUE, Integer.MAX_VALUE};
    private static final int[] NO_PLACES = {-1, -2, Integer.MIN_VALUE};
    private static final int[] NO_ORDERS = {-2, 6, Integer.MIN_VALUE, Integer.MAX_VALUE};

    public static void main(String[] args) {
        withoutTriples();
        whatIsZeroToSeven();
        whatIsElse();
        tripleByPlace();
        tripleOfNoOrder();
        tripleOfNoPlace();
        tripleOfOrderNotKept();
        rememberedByPlace();
        rememberedOfNoPlace();
        noneHere();
        addRange();
        addReturns();
        addTooMany();
        addAllKeepsText();
        addAllIsOneAction();
        addAllAsAdd();
        addAllTooMany();
        addAllOfNoTriples();
        removeRange();
        removeReturns();
        removeOfNone();
        Check.end();
    }

    // ---- what there is

    private static void withoutTriples() {
        Check.sentence("promise 1: creates a store without triples");
        TripleWays x = new TripleWays();
        Check.alike("a new object", Check.seen(x), "0 1 0 0 0 0 0 0 weight 4 triples -1 remembered -1");
        for (int q = -1; q < 6; q++) {
            Check.same("triple(" + q + ", 0)", x.triple(q, 0), -1);
        }
        Check.same("no text", x.clearText(), 0);
        Check.state("nothing to undo", x::undo);
        Check.state("nothing saved in 0", () -> x.restore(0));
        Check.state("nothing saved in 1", () -> x.restore(1));
        TripleWays other = Check.with(1, 2, 3);
        Check.same("objects share nothing", new TripleWays().about(0), 0);
        Check.same("triples of the other one", other.about(0), 3);
    }

    private static void whatIsZeroToSeven() {
        Check.sentence("promise 6: what is 0 to 7, each a number of its own");
        TripleWays x = Check.diagonal();
        x.build(5);
        x.build(3);
        for (int i = 0; i < 14; i++) {
            x.ask(1330);
        }
        // Upkeep by one order: 1, 2, 3, 3, 4, 4, 4, 4, 5, 5.
        int[] due = {10, 41, 35, 80, 140, 14, 12, 4};
        for (int what = 0; what <= 7; what++) {
            Check.same("about(" + what + ")", x.about(what), due[what]);
        }
    }

    private static void whatIsElse() {
        Check.sentence("promise 6: IllegalArgumentException if what is not 0 to 7");
        TripleWays x = new TripleWays();
        for (int what : new int[] {-1, 8, Integer.MIN_VALUE, Integer.MAX_VALUE}) {
            Check.argument("about(" + what + ")", () -> x.about(what));
        }
    }

    private static void tripleByPlace() {
        Check.sentence("promise 7: the triple by its place; NONE if there are not so many");
        TripleWays x = Check.with(7);
        for (int q = -1; q < 6; q++) {
            Check.same("the only one", x.triple(q, 0), 7);
            Check.same("behind it", x.triple(q, 1), -1);
            Check.same("far behind it", x.triple(q, Integer.MAX_VALUE), -1);
        }
        x.remove(7);
        Check.same("removed", x.triple(-1, 0), -1);
        Check.same("removed, by an order", x.triple(0, 0), -1);
        TripleWays full = Check.upTo(40);
        for (int q : new int[] {-1, 0, 1, 4}) {
            Check.same("the last one of 40 by " + q, full.triple(q, 39), 39);
            Check.same("the 41st by " + q, full.triple(q, 40), -1);
        }
    }

    private static void tripleOfNoOrder() {
        Check.sentence("promise 7: IndexOutOfBoundsException if q is neither an order nor NONE");
        TripleWays x = Check.with(7);
        for (int q : NO_ORDERS) {
            Check.index("triple(" + q + ", 0)", () -> x.triple(q, 0));
            Check.index("triple(" + q + ", 1)", () -> x.triple(q, 1));
            Check.index("triple(" + q + ", -1): q is named first", () -> x.triple(q, -1));
        }
        Check.same("the order 5", x.triple(5, 0), 7);
        Check.same("NONE", x.triple(TripleWays.NONE, 0), 7);
    }

    private static void tripleOfNoPlace() {
        Check.sentence("promise 7: IllegalArgumentException if i is negative");
        TripleWays x = Check.with(7);
        for (int i : NO_PLACES) {
            Check.argument("triple(NONE, " + i + ")", () -> x.triple(-1, i));
            Check.argument("triple(0, " + i + ")", () -> x.triple(0, i));
            Check.argument("triple(5, " + i + "), of none", () -> new TripleWays().triple(5, i));
        }
    }

    private static void tripleOfOrderNotKept() {
        Check.sentence("promise 7: an order, kept or not");
        TripleWays x = Check.with(219, 128);
        x.drop(0);
        Check.places(x, 0, 128, 219);
        Check.places(x, 2, 219, 128);
        x.build(2);
        Check.places(x, 2, 219, 128);
        Check.places(x, 5, 128, 219);
    }

    private static void rememberedByPlace() {
        Check.sentence("promise 8: 0 the one that was asked last; NONE if there are not so many");
        TripleWays x = new TripleWays();
        Check.same("none", x.remembered(0), -1);
        x.ask(0);
        Check.same("one", x.remembered(0), 0);
        Check.same("behind it", x.remembered(1), -1);
        x.ask(1330);
        Check.same("the last one", x.remembered(0), 1330);
        Check.same("the one before", x.remembered(1), 0);
        Check.same("behind it", x.remembered(2), -1);
        Check.same("far behind it", x.remembered(Integer.MAX_VALUE), -1);
    }

    private static void rememberedOfNoPlace() {
        Check.sentence("promise 8: IllegalArgumentException if i is negative");
        TripleWays x = new TripleWays();
        x.ask(5);
        for (int i : NO_PLACES) {
            Check.argument("remembered(" + i + ")", () -> x.remembered(i));
        }
    }

    private static void noneHere() {
        Check.sentence("NONE is -1");
        Check.same("NONE", TripleWays.NONE, -1);
    }

    // ---- add

    private static void addRange() {
        Check.sentence("promise 17: triple is 0 to 999");
        TripleWays x = new TripleWays();
        for (int triple : NO_TRIPLES) {
            Check.argument("add(" + triple + ")", () -> x.add(triple));
        }
        Check.same("add(0)", x.add(0), 1);
        Check.same("add(999)", x.add(999), 1);
        TripleWays full = Check.upTo(40);
        for (int triple : NO_TRIPLES) {
            Check.argument("add(" + triple + ") to 40: the range is named first", () -> full.add(triple));
        }
    }

    private static void addReturns() {
        Check.sentence("promise 17: 1 if it was not there, otherwise 0 (and it costs nothing)");
        TripleWays x = new TripleWays();
        Check.same("add(0)", x.add(0), 1);
        Check.same("upkeep", x.about(2), 1);
        Check.same("add(0) again", x.add(0), 0);
        Check.same("upkeep", x.about(2), 1);
        Check.same("triples", x.about(0), 1);
        x.remove(0);
        Check.same("add(0) behind a remove", x.add(0), 1);
    }

    private static void addTooMany() {
        Check.sentence("promise 17: IllegalStateException if it is not there, and there are 40");
        TripleWays x = Check.upTo(40);
        int upkeep = x.about(2);
        Check.state("add(40)", () -> x.add(40));
        Check.state("add(999)", () -> x.add(999));
        Check.same("the first one, which is there", x.add(0), 0);
        Check.same("the last one, which is there", x.add(39), 0);
        Check.same("upkeep", x.about(2), upkeep);
        Check.same("triples", x.about(0), 40);
    }

    // ---- addAll

    private static TripleWays saying(TripleWays x, String text) {
        Check.write(x, text);
        return x;
    }

    private static void addAllKeepsText() {
        Check.sentence("promise 18: addAll keeps the text");
        TripleWays x = saying(new TripleWays(), "123,456");
        x.addAll();
        Check.same("triples still", x.errorPosition(false), -1);
        Check.same("the length", x.append(','), 8);
        Check.state("no triples any more", x::addAll);
        Check.same("the length", x.clearText(), 8);
    }

    private static void addAllIsOneAction() {
        Check.sentence("promise 18: addAll is one action");
        TripleWays x = saying(Check.with(5), "123,456,789");
        x.addAll();
        Check.same("undo", x.undo(), 1);
        Check.places(x, -1, 5);
        x.addAll();
        x.addAll();
        Check.same("one also if nothing is new", x.undo(), 2);
        Check.places(x, -1, 5, 123, 456, 789);
    }

    private static void addAllAsAdd() {
        Check.sentence("promise 18: in their order, as add() does; returns how many are new");
        TripleWays x = saying(Check.with(456), "999,456,000,999,123");
        Check.same("new ones", x.addAll(), 3);
        Check.places(x, -1, 456, 999, 0, 123);
        Check.same("upkeep with 0, 1, 2 and 3 before", x.about(2), 1 + 2 + 3 + 3);
        Check.same("new ones", x.addAll(), 0);
        Check.same("upkeep", x.about(2), 9);
        Check.same("one triple", saying(new TripleWays(), "000").addAll(), 1);
        StringBuilder most = new StringBuilder("100");
        for (int triple = 101; triple < 125; triple++) {
            most.append(',').append(triple);
        }
        TripleWays y = saying(new TripleWays(), most.toString());
        Check.same("25 triples", y.addAll(), 25);
        Check.same("the last one", y.triple(-1, 24), 124);
    }

    private static void addAllTooMany() {
        Check.sentence("promise 18: those that would be too many are left out");
        TripleWays x = saying(Check.upTo(38), "500,501");
        Check.same("just 40", x.addAll(), 2);
        TripleWays y = saying(Check.upTo(39), "500,501,000,502");
        int upkeep = y.about(2);
        Check.same("one fits", y.addAll(), 1);
        Check.same("upkeep of one, with 39 before", y.about(2), upkeep + 7);
        Check.same("triples", y.about(0), 40);
        Check.same("the last one", y.triple(-1, 39), 500);
        Check.same("none fits", y.addAll(), 0);
        Check.same("an action", y.undo(), 13);
        Check.same("triples", y.about(0), 40);
        Check.same("undo", y.undo(), 12);
        Check.same("triples", y.about(0), 39);
    }

    private static void addAllOfNoTriples() {
        Check.sentence("promise 18: IllegalStateException if the text is not triples");
        TripleWays x = new TripleWays();
        for (String text : new String[] {"", "1", "12", "1234", "1*3", "123,", "123,45", ",123", "123;456"}) {
            Check.write(x, text);
            Check.state("addAll of '" + text + "'", x::addAll);
        }
        Check.same("nothing is added, also of a good start", x.about(0), 0);
        Check.state("no action", x::undo);
        TripleWays full = saying(Check.upTo(40), "12");
        Check.state("addAll to 40", full::addAll);
    }

    // ---- remove

    private static void removeRange() {
        Check.sentence("promise 19: triple is 0 to 999");
        TripleWays x = Check.with(0, 999);
        for (int triple : NO_TRIPLES) {
            Check.argument("remove(" + triple + ")", () -> x.remove(triple));
        }
        Check.same("remove(0)", x.remove(0), 1);
        Check.same("remove(999)", x.remove(999), 1);
    }

    private static void removeReturns() {
        Check.sentence("promise 19: 1 if it was there, otherwise 0 (and it costs nothing)");
        TripleWays x = Check.with(5, 6, 7);
        Check.same("remove(8)", x.remove(8), 0);
        Check.same("upkeep", x.about(2), 6);
        Check.same("remove(7)", x.remove(7), 1);
        Check.same("upkeep with 3 before", x.about(2), 9);
        Check.same("remove(7) again", x.remove(7), 0);
        Check.same("upkeep", x.about(2), 9);
        Check.same("remove(5)", x.remove(5), 1);
        Check.same("remove(6)", x.remove(6), 1);
        Check.same("triples", x.about(0), 0);
        TripleWays full = Check.upTo(40);
        Check.same("the last one of 40", full.remove(39), 1);
        Check.same("the first one of 39", full.remove(0), 1);
        Check.same("the first place", full.triple(-1, 0), 1);
        Check.same("the last place", full.triple(-1, 37), 38);
        Check.same("behind it", full.triple(-1, 38), -1);
    }

    private static void removeOfNone() {
        Check.sentence("promise 19: remove from a store without triples");
        TripleWays x = new TripleWays();
        Check.same("remove(0)", x.remove(0), 0);
        Check.same("upkeep", x.about(2), 0);
        Check.same("an action", x.undo(), 0);
        TripleWays y = Check.with(0);
        y.remove(0);
        Check.same("remove(0) again", y.remove(0), 0);
        Check.same("triples", y.about(0), 0);
    }
}
