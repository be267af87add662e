/** The boundary cases of promises 10 to 14: a test for each sentence. */
public final class QuestionEdgeTest {

    private static final int[] NO_QUESTIONS = {-1, 1331, Integer.MIN_VALUE, Integer.MAX_VALUE};
    private static final int[] NO_ORDERS = {-2, 6, Integer.MIN_VALUE, Integer.MAX_VALUE};

    public static void main(String[] args) {
        countRange();
        countAnswers();
        costRange();
        costOfNoOrder();
        costAsIfKept();
        costMoreThanAll();
        costNow();
        byRange();
        byFullWalk();
        reachRange();
        reachOfNoOrder();
        reachZeroToThree();
        answerRange();
        answerOfNoPlace();
        answerNone();
        nothingChanges();
        Check.end();
    }

    // ---- count

    private static void countRange() {
        Check.sentence("promise 10: question is 0 to 1330");
        TripleWays x = Check.with(0, 999);
        for (int question : NO_QUESTIONS) {
            Check.argument("count(" + question + ")", () -> x.count(question));
        }
        Check.same("count(0)", x.count(0), 1);
        Check.same("count(1330)", x.count(1330), 2);
    }

    private static void countAnswers() {
        Check.sentence("promise 10: returns how many answers it has");
        Check.same("of none", new TripleWays().count(1330), 0);
        TripleWays x = Check.upTo(40);
        Check.same("all 40", x.count(1330), 40);
        Check.same("0**", x.count(Check.ask("0**")), 40);
        Check.same("none", x.count(Check.ask("1**")), 0);
        Check.same("*3*", x.count(Check.ask("*3*")), 10);
        Check.same("the first one", x.count(Check.ask("000")), 1);
        Check.same("the last one", x.count(Check.ask("039")), 1);
        Check.same("one behind it", x.count(Check.ask("040")), 0);
    }

    // ---- cost

    private static void costRange() {
        Check.sentence("promise 11: question is 0 to 1330");
        TripleWays x = Check.with(7);
        for (int question : NO_QUESTIONS) {
            Check.argument("cost(" + question + ", NONE)", () -> x.cost(question, -1));
            Check.argument("cost(" + question + ", 0)", () -> x.cost(question, 0));
            Check.argument("cost(" + question + ", 6): the question is named first", () -> x.cost(question, 6));
            Check.argument("cost(" + question + ", -2): the question is named first", () -> x.cost(question, -2));
        }
        Check.same("cost(0, 0)", x.cost(0, 0), 1);
        Check.same("cost(1330, 5)", x.cost(1330, 5), 1);
    }

    private static void costOfNoOrder() {
        Check.sentence("promise 11: IndexOutOfBoundsException if q is neither NONE nor an order");
        TripleWays x = Check.with(7);
        for (int q : NO_ORDERS) {
            Check.index("cost(0, " + q + ")", () -> x.cost(0, q));
            Check.index("cost(1330, " + q + ")", () -> x.cost(1330, q));
        }
    }

    private static void costAsIfKept() {
        Check.sentence("promise 11: by an order, what it costs as if it was kept");
        TripleWays x = Check.diagonal();
        x.drop(0);
        Check.same("1** by 0", x.cost(Check.ask("1**"), 0), 5);
        Check.same("1** by 1", x.cost(Check.ask("1**"), 1), 5);
        Check.same("1** by 2", x.cost(Check.ask("1**"), 2), 10);
        Check.same("**1 by 5", x.cost(Check.ask("**1"), 5), 5);
        Check.same("without an order", x.cost(Check.ask("1**"), -1), 10);
    }

    private static void costMoreThanAll() {
        Check.sentence("promise 11: what it costs by an order is perhaps more than n");
        TripleWays x = Check.upTo(40);
        Check.same("0** by 0", x.cost(Check.ask("0**"), 0), 46);
        Check.same("0** now", x.cost(Check.ask("0**"), -1), 40);
        TripleWays y = Check.with(7);
        Check.same("0** by 0, of one", y.cost(Check.ask("0**"), 0), 2);
        Check.same("0** now, of one", y.cost(Check.ask("0**"), -1), 1);
        Check.same("of none", new TripleWays().cost(0, 3), 0);
    }

    private static void costNow() {
        Check.sentence("promise 11: NONE: as it is answered now");
        TripleWays x = Check.diagonal();
        Check.same("*1* now", x.cost(Check.ask("*1*"), TripleWays.NONE), 10);
        x.build(3);
        Check.same("*1* then", x.cost(Check.ask("*1*"), TripleWays.NONE), 5);
        x.undo();
        Check.same("*1* again", x.cost(Check.ask("*1*"), TripleWays.NONE), 10);
    }

    // ---- by

    private static void byRange() {
        Check.sentence("promise 12: question is 0 to 1330");
        TripleWays x = Check.diagonal();
        for (int question : NO_QUESTIONS) {
            Check.argument("by(" + question + ")", () -> x.by(question));
        }
        Check.same("by(0)", x.by(0), 0);
        Check.same("by(1330)", x.by(1330), -1);
    }

    private static void byFullWalk() {
        Check.sentence("promise 12: the order; NONE by a full walk");
        TripleWays x = Check.diagonal();
        Check.same("1**", x.by(Check.ask("1**")), 0);
        Check.same("*1*", x.by(Check.ask("*1*")), TripleWays.NONE);
        for (int q = 1; q < 6; q++) {
            x.build(q);
        }
        Check.same("1**", x.by(Check.ask("1**")), 0);
        Check.same("*1*", x.by(Check.ask("*1*")), 2);
        Check.same("**1", x.by(Check.ask("**1")), 4);
        Check.same("***", x.by(1330), TripleWays.NONE);
        x.drop(4);
        Check.same("**1", x.by(Check.ask("**1")), 5);
        x.drop(5);
        Check.same("**1", x.by(Check.ask("**1")), TripleWays.NONE);
        Check.same("of none", new TripleWays().by(0), TripleWays.NONE);
    }

    // ---- reach

    private static void reachRange() {
        Check.sentence("promise 13: question is 0 to 1330");
        TripleWays x = new TripleWays();
        for (int question : NO_QUESTIONS) {
            Check.argument("reach(" + question + ", 0)", () -> x.reach(question, 0));
            Check.argument("reach(" + question + ", 6): the question is named first", () -> x.reach(question, 6));
            Check.argument("reach(" + question + ", -1): the question is named first", () -> x.reach(question, -1));
        }
        Check.same("reach(0, 0)", x.reach(0, 0), 3);
        Check.same("reach(1330, 5)", x.reach(1330, 5), 0);
    }

    private static void reachOfNoOrder() {
        Check.sentence("promise 13: IndexOutOfBoundsException if there is no such order");
        TripleWays x = new TripleWays();
        for (int q : NO_ORDERS) {
            Check.index("reach(0, " + q + ")", () -> x.reach(0, q));
        }
        Check.index("reach(0, NONE)", () -> x.reach(0, TripleWays.NONE));
        Check.index("reach(1330, NONE)", () -> x.reach(1330, TripleWays.NONE));
    }

    private static void reachZeroToThree() {
        Check.sentence("promise 13: returns its reach for the question, 0 to 3");
        TripleWays x = new TripleWays();
        Check.same("*** by 0", x.reach(Check.ask("***"), 0), 0);
        Check.same("0** by 0", x.reach(Check.ask("0**"), 0), 1);
        Check.same("00* by 0", x.reach(Check.ask("00*"), 0), 2);
        Check.same("000 by 0", x.reach(Check.ask("000"), 0), 3);
        Check.same("*** by 5", x.reach(Check.ask("***"), 5), 0);
        Check.same("**9 by 5", x.reach(Check.ask("**9"), 5), 1);
        Check.same("*99 by 5", x.reach(Check.ask("*99"), 5), 2);
        Check.same("999 by 5", x.reach(Check.ask("999"), 5), 3);
    }

    // ---- answer

    private static void answerRange() {
        Check.sentence("promise 14: question is 0 to 1330");
        TripleWays x = Check.with(0);
        for (int question : NO_QUESTIONS) {
            Check.argument("answer(" + question + ", 0)", () -> x.answer(question, 0));
            Check.argument("answer(" + question + ", -1)", () -> x.answer(question, -1));
        }
        Check.same("answer(0, 0)", x.answer(0, 0), 0);
        Check.same("answer(1330, 0)", x.answer(1330, 0), 0);
    }

    private static void answerOfNoPlace() {
        Check.sentence("promise 14: IllegalArgumentException if i is negative");
        TripleWays x = Check.diagonal();
        for (int i : new int[] {-1, -2, Integer.MIN_VALUE}) {
            Check.argument("answer of ***, " + i, () -> x.answer(1330, i));
            Check.argument("answer of 1**, " + i, () -> x.answer(Check.ask("1**"), i));
            Check.argument("answer of none, " + i, () -> new TripleWays().answer(0, i));
        }
    }

    private static void answerNone() {
        Check.sentence("promise 14: NONE if there are not so many");
        Check.same("of none", new TripleWays().answer(1330, 0), -1);
        TripleWays x = Check.upTo(40);
        Check.same("the 40th", x.answer(1330, 39), 39);
        Check.same("the 41st", x.answer(1330, 40), -1);
        Check.same("the greatest place", x.answer(1330, Integer.MAX_VALUE), -1);
        Check.same("the 10th of 03*", x.answer(Check.ask("03*"), 9), 39);
        Check.same("the 11th of 03*", x.answer(Check.ask("03*"), 10), -1);
        Check.same("the only one of 00*, 0", x.answer(Check.ask("005"), 0), 5);
        Check.same("behind it", x.answer(Check.ask("005"), 1), -1);
        Check.same("none of 1**", x.answer(Check.ask("1**"), 0), -1);
    }

    private static void nothingChanges() {
        Check.sentence("questions; these methods change nothing");
        TripleWays x = Check.diagonal();
        x.ask(Check.ask("*1*"));
        String before = Check.seen(x);
        x.count(5);
        x.cost(5, -1);
        x.cost(5, 3);
        x.by(5);
        x.reach(5, 3);
        x.answer(5, 0);
        x.pairs(5, 1330, 0, 1);
        x.joinCost(5, 1330, 0, 1, false);
        x.joinCost(1330, 1330, 0, 0, true);
        Check.alike("the state", Check.seen(x), before);
        Check.same("no action", x.undo(), 10);
    }
}
