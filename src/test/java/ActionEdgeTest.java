import java.util.ArrayList;
import java.util.List;

/** The boundary cases of "Actions and undo", of "Exceptions", and of promises 20 to 25: a test for each sentence. */
public final class ActionEdgeTest {

    private static final int[] NO_ORDERS = {-1, 6, Integer.MIN_VALUE, Integer.MAX_VALUE, 32};

    interface Action {
        int on(TripleWays x);
    }

    public static void main(String[] args) {
        askRange();
        askReturns();
        askThirteen();
        buildOfNoOrder();
        buildOfKept();
        buildReturns();
        dropOfNoOrder();
        dropOfNotKept();
        dropReturns();
        tidyBuildsFirst();
        tidyBuiltOrder();
        tidyDroppedOrder();
        tidyNothing();
        weightRange();
        weightReturns();
        undoReturns();
        undoOfNone();
        undoIsNone();
        nothingDifferent();
        rememberedBefore();
        fourteenStates();
        fifteenthForgotten();
        againAndAgain();
        noActions();
        textIsNoState();
        firstNamed();
        refusedTexts();
        refusedLooks();
        refusedQuestions();
        refusedActions();
        refusedAdvice();
        refusedSlots();
        refusedUndo();
        Check.end();
    }

    // ---- ask

    private static void askRange() {
        Check.sentence("promise 20: question is 0 to 1330");
        TripleWays x = Check.with(0);
        for (int question : new int[] {-1, 1331, Integer.MIN_VALUE, Integer.MAX_VALUE}) {
            Check.argument("ask(" + question + ")", () -> x.ask(question));
        }
        Check.same("asked", x.about(5), 0);
        Check.same("ask(0)", x.ask(0), 1);
        Check.same("ask(1330)", x.ask(1330), 1);
        Check.same("asked", x.about(5), 2);
    }

    private static void askReturns() {
        Check.sentence("promise 20: returns how many answers it has; its cost counts");
        TripleWays none = new TripleWays();
        Check.same("without triples", none.ask(1330), 0);
        Check.same("its cost", none.about(4), 0);
        Check.same("it is remembered", none.remembered(0), 1330);
        TripleWays x = Check.upTo(40);
        Check.same("all", x.ask(1330), 40);
        Check.same("its cost", x.about(4), 40);
        Check.same("none of 1**", x.ask(Check.ask("1**")), 0);
        Check.same("its cost: look(40)", x.about(4), 46);
        Check.same("the last triple", x.ask(Check.ask("039")), 1);
        Check.same("its cost", x.about(4), 53);
    }

    private static void askThirteen() {
        Check.sentence("promise 20: it is remembered, also the 13th");
        TripleWays x = Check.with(5);
        for (int i = 0; i < 13; i++) {
            x.ask(i);
        }
        Check.same("remembered(0)", x.remembered(0), 12);
        Check.same("remembered(11)", x.remembered(11), 1);
        Check.same("all cost", x.about(4), 13);
        Check.same("all are asked", x.about(5), 13);
    }

    // ---- build and drop

    private static void buildOfNoOrder() {
        Check.sentence("promise 21: IndexOutOfBoundsException if there is no such order");
        TripleWays x = Check.with(5);
        for (int q : NO_ORDERS) {
            Check.index("build(" + q + ")", () -> x.build(q));
        }
        Check.same("kept", x.about(1), 1);
        Check.same("building", x.about(3), 0);
        Check.same("build(5)", x.build(5), 1);
    }

    private static void buildOfKept() {
        Check.sentence("promise 21: IllegalStateException if it is kept");
        TripleWays x = Check.with(5);
        for (int q = 0; q < 6; q++) {
            int order = q;
            if (q > 0) {
                Check.same("build(" + q + ")", x.build(q), 1);
            }
            Check.state("build(" + q + ") again", () -> x.build(order));
        }
        Check.same("kept", x.about(1), 63);
        Check.same("building", x.about(3), 5);
        x.drop(0);
        Check.same("build(0)", x.build(0), 1);
    }

    private static void buildReturns() {
        Check.sentence("promise 21: returns what it costs");
        Check.same("without triples", new TripleWays().build(3), 0);
        Check.same("one triple", Check.with(5).build(3), 1);
        Check.same("40 triples", Check.upTo(40).build(3), 240);
        TripleWays x = Check.upTo(3);
        x.build(1);
        Check.same("this one alone, not those before", x.build(2), 6);
        Check.same("all so far", x.about(3), 12);
    }

    private static void dropOfNoOrder() {
        Check.sentence("promise 22: IndexOutOfBoundsException if there is no such order");
        TripleWays x = Check.with(5);
        for (int q : NO_ORDERS) {
            Check.index("drop(" + q + ")", () -> x.drop(q));
        }
        Check.same("kept", x.about(1), 1);
        x.drop(0);
        for (int q : NO_ORDERS) {
            Check.index("drop(" + q + "), none kept", () -> x.drop(q));
        }
    }

    private static void dropOfNotKept() {
        Check.sentence("promise 22: IllegalStateException if it is not kept");
        TripleWays x = Check.with(5);
        for (int q = 1; q < 6; q++) {
            int order = q;
            Check.state("drop(" + q + ")", () -> x.drop(order));
        }
        x.drop(0);
        Check.state("drop(0) again", () -> x.drop(0));
        x.build(5);
        Check.same("drop(5)", x.drop(5), 0);
        Check.state("drop(5) again", () -> x.drop(5));
    }

    private static void dropReturns() {
        Check.sentence("promise 22: returns how many orders are kept then");
        TripleWays x = Check.with(5);
        for (int q = 1; q < 6; q++) {
            x.build(q);
        }
        int costs = x.about(3);
        for (int q = 0; q < 6; q++) {
            Check.same("drop(" + q + ")", x.drop(q), 5 - q);
        }
        Check.same("kept", x.about(1), 0);
        Check.same("dropping costs nothing", x.about(3), costs);
        Check.same("no upkeep", x.about(2), 1);
    }

    // ---- tidy

    private static void tidyBuildsFirst() {
        Check.sentence("promise 23: builds the order that advised() tells, otherwise drops the one that spare() tells");
        TripleWays x = Check.diagonal();
        x.setWeight(1);
        Check.askAll(x, "*1*", "*1*");
        Check.same("advised", x.advised(), 2);
        Check.same("spare", x.spare(), 0);
        Check.same("it builds", x.tidy(), 12);
        Check.same("and does not drop", x.about(1), 5);
        Check.same("then it drops", x.tidy(), 0);
        Check.same("kept", x.about(1), 4);
        Check.same("then nothing", x.tidy(), -1);
        Check.same("kept", x.about(1), 4);
    }

    private static void tidyBuiltOrder() {
        Check.sentence("promise 23: returns 10 and the order, if it was built");
        TripleWays x = Check.diagonal();
        x.setWeight(0);
        x.drop(0);
        Check.askAll(x, "1**");
        Check.same("the order 0", x.tidy(), 10);
        Check.same("it costs what building costs", x.about(3), 40);
        TripleWays y = Check.diagonal();
        y.setWeight(0);
        Check.askAll(y, "*12", "**1");
        Check.same("the order 5", y.tidy(), 15);
        Check.same("kept", y.about(1), 33);
    }

    private static void tidyDroppedOrder() {
        Check.sentence("promise 23: returns the order, if it was dropped");
        TripleWays x = new TripleWays();
        x.build(5);
        Check.same("the order 0", x.tidy(), 0);
        Check.same("the order 5", x.tidy(), 5);
        Check.same("kept", x.about(1), 0);
        Check.same("dropping costs nothing", x.about(3), 0);
    }

    private static void tidyNothing() {
        Check.sentence("promise 23: returns NONE if nothing is done");
        TripleWays x = new TripleWays();
        x.setWeight(0);
        Check.same("no weight", x.tidy(), TripleWays.NONE);
        Check.same("kept", x.about(1), 1);
        x.drop(0);
        x.setWeight(99);
        Check.same("no order", x.tidy(), TripleWays.NONE);
        Check.same("kept", x.about(1), 0);
        Check.same("building", x.about(3), 0);
    }

    // ---- setWeight

    private static void weightRange() {
        Check.sentence("promise 24: v is 0 to 99");
        TripleWays x = new TripleWays();
        for (int v : new int[] {-1, 100, Integer.MIN_VALUE, Integer.MAX_VALUE}) {
            Check.argument("setWeight(" + v + ")", () -> x.setWeight(v));
            Check.same("the weight", x.weight(), 4);
        }
        Check.same("setWeight(0)", x.setWeight(0), 4);
        Check.same("setWeight(99)", x.setWeight(99), 0);
        Check.same("the weight", x.weight(), 99);
    }

    private static void weightReturns() {
        Check.sentence("promise 24: returns the previous one");
        TripleWays x = new TripleWays();
        Check.same("4 again", x.setWeight(4), 4);
        Check.same("5", x.setWeight(5), 4);
        Check.same("6", x.setWeight(6), 5);
        x.undo();
        Check.same("7", x.setWeight(7), 5);
    }

    // ---- undo

    private static void undoReturns() {
        Check.sentence("promise 25: returns how many states are still remembered");
        TripleWays x = Check.with(1, 2, 3);
        Check.same("undo", x.undo(), 2);
        Check.same("undo", x.undo(), 1);
        x.add(4);
        Check.same("undo", x.undo(), 1);
        Check.same("undo", x.undo(), 0);
    }

    private static void undoOfNone() {
        Check.sentence("promise 25: IllegalStateException if none is remembered");
        TripleWays x = new TripleWays();
        Check.state("a new object", x::undo);
        x.add(1);
        x.undo();
        Check.state("all taken back", x::undo);
        Check.state("again", x::undo);
        x.add(1);
        x.save(0);
        x.restore(0);
        Check.state("behind restore", x::undo);
    }

    private static void undoIsNone() {
        Check.sentence("undo is no action");
        TripleWays x = Check.with(1, 2, 3);
        x.undo();
        x.undo();
        Check.places(x, -1, 1);
        x.undo();
        Check.places(x, -1);
        Check.state("no state of an undo is remembered", x::undo);
    }

    private static void nothingDifferent() {
        Check.sentence("each call that does not throw is an action, also if nothing becomes different");
        isAction("add of one that is there", Check.with(5), x -> x.add(5));
        isAction("add of one that is there, to 40", Check.upTo(40), x -> x.add(5));
        isAction("remove of one that is not there", Check.with(5), x -> x.remove(6));
        isAction("remove from none", new TripleWays(), x -> x.remove(6));
        isAction("addAll of one that is there", Check.with(5), x -> x.addAll());
        isAction("addAll of one that is there, to 40", Check.upTo(40), x -> x.addAll());
        isAction("tidy without advice", Check.with(5), x -> x.tidy());
        isAction("setWeight of the same", Check.with(5), x -> x.setWeight(0));
    }

    private static void isAction(String what, TripleWays x, Action call) {
        Check.write(x, "005");
        x.setWeight(0);
        x.save(0);
        x.restore(0);
        String before = Check.seen(x);
        call.on(x);
        Check.alike("the state behind " + what, Check.seen(x), before);
        Check.same(what + ": undo", x.undo(), 0);
        Check.alike("the state behind its undo", Check.seen(x), before);
        Check.state(what + ": one action alone", x::undo);
    }

    private static void rememberedBefore() {
        Check.sentence("before each action, the state is remembered");
        takesBack("add", x -> x.add(7));
        takesBack("addAll", x -> x.addAll());
        takesBack("remove", x -> x.remove(5));
        takesBack("remove of the last", x -> x.remove(6));
        takesBack("ask", x -> x.ask(Check.ask("5**")));
        takesBack("build", x -> x.build(3));
        takesBack("drop", x -> x.drop(0));
        takesBack("tidy", x -> x.tidy());
        takesBack("setWeight", x -> x.setWeight(99));
    }

    private static void takesBack(String what, Action call) {
        TripleWays x = Check.with(5, 500, 6);
        for (int i = 0; i < 13; i++) {
            x.ask(i);
        }
        Check.write(x, "123,456");
        String before = Check.seen(x);
        call.on(x);
        Check.same(what + " is seen", Check.seen(x).equals(before) ? 1 : 0, 0);
        Check.same(what + ": undo", x.undo(), 13);
        Check.alike("the state before " + what, Check.seen(x), before);
    }

    private static void fourteenStates() {
        Check.sentence("at most 14 states are remembered");
        TripleWays x = new TripleWays();
        for (int i = 0; i < 14; i++) {
            x.setWeight(50 + i);
        }
        for (int i = 13; i >= 0; i--) {
            Check.same("undo", x.undo(), i);
            Check.same("the weight", x.weight(), i == 0 ? 4 : 49 + i);
        }
        Check.state("the 15th undo", x::undo);
        Check.same("the weight", x.weight(), 4);
    }

    private static void fifteenthForgotten() {
        Check.sentence("when one more state is remembered, the oldest is forgotten");
        TripleWays x = new TripleWays();
        for (int i = 0; i < 15; i++) {
            x.setWeight(50 + i);
        }
        for (int i = 13; i >= 0; i--) {
            Check.same("undo", x.undo(), i);
            Check.same("the weight", x.weight(), 50 + i);
        }
        Check.state("the 15th undo", x::undo);
        Check.same("the weight of the first action", x.weight(), 50);
    }

    private static void againAndAgain() {
        Check.sentence("actions and undo by turns: the last 14 states that were not taken back are remembered");
        TripleWays x = new TripleWays();
        List<Integer> before = new ArrayList<>();
        int weight = 4;
        for (int step = 0; step < 396; step++) {
            if (step % 7 < 4 || before.isEmpty()) {
                before.add(weight);
                weight = step % 100;
                x.setWeight(weight);
                if (before.size() > 14) {
                    before.remove(0);
                }
            } else {
                weight = before.remove(before.size() - 1);
                Check.same("undo", x.undo(), before.size());
            }
        }
        Check.same("states left", before.size(), 14);
        while (!before.isEmpty()) {
            weight = before.remove(before.size() - 1);
            Check.same("undo", x.undo(), before.size());
            Check.same("the weight", x.weight(), weight);
        }
        Check.state("no more", x::undo);
    }

    private static void noActions() {
        Check.sentence("only the methods in the section actions are actions");
        TripleWays x = Check.with(1);
        x.append('5');
        x.errorPosition(true);
        x.clearText();
        x.about(0);
        x.triple(0, 0);
        x.remembered(0);
        x.weight();
        x.count(0);
        x.cost(0, 0);
        x.by(0);
        x.reach(0, 0);
        x.answer(0, 0);
        x.pairs(0, 0, 0, 0);
        x.joinCost(0, 0, 0, 0, true);
        x.value(0);
        x.advised();
        x.spare();
        x.needed();
        x.ifKept(0);
        x.bestSet();
        x.runScript(1, 10002);
        x.simulate(1, 1);
        x.save(0);
        Check.same("undo of the one action", x.undo(), 0);
        Check.same("triples", x.about(0), 0);
    }

    private static void textIsNoState() {
        Check.sentence("the text is not of the state: undo leaves it");
        TripleWays x = new TripleWays();
        Check.write(x, "123");
        x.addAll();
        x.append(',');
        x.undo();
        Check.same("the text", x.clearText(), 4);
        x.add(1);
        x.undo();
        Check.same("the emptied text", x.clearText(), 0);
    }

    // ---- exceptions

    private static void firstNamed() {
        Check.sentence("if several exceptions apply, the one that is named first is thrown");
        TripleWays x = Check.upTo(40);
        Check.write(x, "1".repeat(100));
        Check.argument("append: the code before the length", () -> x.append(256));
        Check.argument("append: the code before the length", () -> x.append(-1));
        Check.index("triple: the order before the place", () -> x.triple(6, -1));
        Check.index("triple: the order before the place", () -> x.triple(-2, -1));
        Check.argument("cost: the question before the order", () -> x.cost(1331, 6));
        Check.argument("cost: the question before the order", () -> x.cost(-1, -2));
        Check.argument("reach: the question before the order", () -> x.reach(1331, 6));
        Check.argument("reach: the question before the order", () -> x.reach(-1, -1));
        Check.argument("add: the triple before the 40", () -> x.add(1000));
        Check.argument("add: the triple before the 40", () -> x.add(-1));
        Check.index("build: the order before kept", () -> x.build(6));
        Check.index("build: the order before kept", () -> x.build(-1));
        Check.index("drop: the order before not kept", () -> x.drop(6));
        Check.index("drop: the order before not kept", () -> x.drop(-1));
        Check.index("restore: the slot before what is saved", () -> x.restore(2));
        Check.index("restore: the slot before what is saved", () -> x.restore(-1));
    }

    /** A full store, 100 characters that are neither triples nor a question, the slot 1 empty; no states or 14. */
    private static TripleWays full(boolean states) {
        TripleWays x = new TripleWays();
        Check.write(x, "123,".repeat(25));
        x.save(0);
        for (int i = 0; i < 40; i++) {
            x.add(25 * i);
        }
        x.build(4);
        for (int i = 0; i < 13; i++) {
            x.ask(100 * i);
        }
        if (!states) {
            x.save(0);
            x.restore(0);
        }
        return x;
    }

    private static void refused(String what, Action call) {
        refused(what, call, false);
        refused(what, call, true);
    }

    private static void refused(String what, Action call, boolean states) {
        TripleWays x = full(states);
        String before = Check.seen(x);
        try {
            Check.same(what + " does not throw, it", call.on(x), Long.MAX_VALUE);
        } catch (IllegalArgumentException | IllegalStateException | IndexOutOfBoundsException e) {
            Check.alike("the state behind " + what, Check.seen(x), before);
        }
        Check.same("the text behind " + what, x.errorPosition(false), 100);
        Check.same("the text behind " + what, x.errorPosition(true), 3);
        Check.same("the length behind " + what, x.clearText(), 100);
        if (states) {
            Check.same("undo behind " + what, x.undo(), 13);
            Check.same("the action taken back behind " + what, x.about(5), 12);
        } else {
            Check.state("undo behind " + what, x::undo);
        }
        Check.state("the slot 1 behind " + what, () -> x.restore(1));
        Check.same("the slot 0 behind " + what, x.restore(0), states ? 0 : 40);
    }

    private static final String NOTHING = "a call that throws an exception changes nothing";

    private static void refusedTexts() {
        Check.sentence(NOTHING);
        refused("append(-1)", x -> x.append(-1));
        refused("append(256)", x -> x.append(256));
        refused("append(65)", x -> x.append(65));
        refused("question()", x -> x.question());
    }

    private static void refusedLooks() {
        Check.sentence(NOTHING);
        refused("about(8)", x -> x.about(8));
        refused("triple(6, 0)", x -> x.triple(6, 0));
        refused("triple(0, -1)", x -> x.triple(0, -1));
        refused("remembered(-1)", x -> x.remembered(-1));
    }

    private static void refusedQuestions() {
        Check.sentence(NOTHING);
        refused("count(1331)", x -> x.count(1331));
        refused("cost(1331, 0)", x -> x.cost(1331, 0));
        refused("cost(0, 6)", x -> x.cost(0, 6));
        refused("by(-1)", x -> x.by(-1));
        refused("reach(1331, 0)", x -> x.reach(1331, 0));
        refused("reach(0, 6)", x -> x.reach(0, 6));
        refused("answer(1331, 0)", x -> x.answer(1331, 0));
        refused("answer(0, -1)", x -> x.answer(0, -1));
        refused("pairs(0, 0, 0, 3)", x -> x.pairs(0, 0, 0, 3));
        refused("joinCost(0, 0, 3, 0)", x -> x.joinCost(0, 0, 3, 0, true));
    }

    private static void refusedActions() {
        Check.sentence(NOTHING);
        refused("add(1000)", x -> x.add(1000));
        refused("add of the 41st", x -> x.add(1));
        refused("addAll()", x -> x.addAll());
        refused("remove(-1)", x -> x.remove(-1));
        refused("ask(1331)", x -> x.ask(1331));
        refused("build(6)", x -> x.build(6));
        refused("build(4), kept", x -> x.build(4));
        refused("drop(-1)", x -> x.drop(-1));
        refused("drop(5), not kept", x -> x.drop(5));
        refused("setWeight(100)", x -> x.setWeight(100));
    }

    private static void refusedAdvice() {
        Check.sentence(NOTHING);
        refused("value(6)", x -> x.value(6));
        refused("ifKept(64)", x -> x.ifKept(64));
        refused("runScript(0, 0)", x -> x.runScript(0, 0));
        refused("runScript(1, 100000)", x -> x.runScript(1, 100000));
        refused("runScript(1, -1)", x -> x.runScript(1, -1));
        refused("simulate(1, 0)", x -> x.simulate(1, 0));
        refused("simulate(1, 100)", x -> x.simulate(1, 100));
    }

    private static void refusedSlots() {
        Check.sentence(NOTHING);
        refused("save(2)", x -> x.save(2));
        refused("restore(2)", x -> x.restore(2));
        refused("restore(1), nothing saved", x -> x.restore(1));
    }

    private static void refusedUndo() {
        Check.sentence(NOTHING);
        refused("undo()", x -> x.undo(), false);
        TripleWays x = new TripleWays();
        String before = Check.seen(x);
        Check.state("undo of a new object", x::undo);
        Check.state("undo of a new object", x::undo);
        Check.alike("the state", Check.seen(x), before);
        Check.same("an action", x.add(5), 1);
        Check.same("its undo", x.undo(), 0);
    }
}
