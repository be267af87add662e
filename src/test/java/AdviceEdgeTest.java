/** The boundary cases of the gain and the loss, and of promises 26 to 31: a test for each sentence. */
public final class AdviceEdgeTest {

    public static void main(String[] args) {
        weightTimesLook();
        gainOfRemembered();
        gainAgainstNow();
        gainIsNeverLess();
        lossOfKept();
        lossBesideOthers();
        valueOfNoOrder();
        valueOfEither();
        advisedAboveZero();
        advisedLowest();
        advisedGreatest();
        advisedNotKept();
        advisedNone();
        spareBelowZero();
        spareLowest();
        spareLeast();
        spareKept();
        neededOfNone();
        neededOfFree();
        neededFewest();
        neededSmallest();
        neededAll();
        neededRemembered();
        ifKeptRange();
        ifKeptJustThese();
        ifKeptNone();
        bestSetLeast();
        bestSetSmallest();
        bestSetWeight();
        adviceChangesNothing();
        Check.end();
    }

    // By a fitting order a question costs 5 on the diagonal, and 10 by a full walk; the weight counts 5 times.

    /** look(4) is 3: a question that no triple answers costs 3 by an order, 4 by a full walk; the weight counts 4 times. */
    private static TripleWays four() {
        return Check.with(111, 222, 333, 444);
    }

    private static void ask(TripleWays x, int often, String question) {
        for (int i = 0; i < often; i++) {
            x.ask(Check.ask(question));
        }
    }

    // ---- gain and loss

    private static void weightTimesLook() {
        Check.sentence("less the weight times (look(n) + 1)");
        int[] sizes = {0, 1, 3, 4, 31, 32, 40};
        int[] times = {1, 2, 3, 4, 6, 7, 7};
        for (int i = 0; i < sizes.length; i++) {
            TripleWays x = Check.upTo(sizes[i]);
            for (int weight : new int[] {0, 1, 4, 99}) {
                x.setWeight(weight);
                Check.same("the loss of 0 with " + sizes[i], x.value(0), -weight * times[i]);
                Check.same("the gain of 5 with " + sizes[i], x.value(5), -weight * times[i]);
            }
        }
    }

    private static void gainOfRemembered() {
        Check.sentence("the gain is the sum for the remembered questions, each as often as it was asked");
        TripleWays x = Check.diagonal();
        x.setWeight(0);
        for (int i = 1; i <= 12; i++) {
            ask(x, 1, "*1*");
            Check.same("asked " + i + " times", x.value(2), 5 * i);
        }
        ask(x, 1, "*1*");
        Check.same("asked 13 times", x.value(2), 60);
        ask(x, 1, "***");
        Check.same("one is forgotten", x.value(2), 55);
        ask(x, 11, "***");
        Check.same("all are forgotten", x.value(2), 0);
    }

    private static void gainAgainstNow() {
        Check.sentence("the gain: what they cost now, less what they would cost if it was kept");
        TripleWays x = Check.diagonal();
        x.setWeight(1);
        ask(x, 3, "*1*");
        Check.same("the order 2", x.value(2), 10);
        Check.same("the order 3", x.value(3), 10);
        Check.same("the order 4", x.value(4), -5);
        x.build(2);
        Check.same("the order 3, beside 2", x.value(3), -5);
        TripleWays y = Check.with(110, 121, 132, 240, 350, 460, 570, 680);
        // look(8) is 4: 1*0 costs 7 by the order 0, 5 by 1.
        y.setWeight(0);
        ask(y, 1, "1*0");
        Check.same("an order of more reach", y.value(1), 2);
    }

    private static void gainIsNeverLess() {
        Check.sentence("an order that is dear is not used: its gain is less by its weight alone");
        TripleWays x = Check.with(111, 112, 113, 114);
        x.setWeight(1);
        ask(x, 2, "1**");
        Check.same("the gain of 1", x.value(1), -4);
        Check.same("the loss of 0", x.value(0), -4);
    }

    private static void lossOfKept() {
        Check.sentence("the loss: what they would cost if it was not kept, less what they cost now");
        TripleWays x = Check.diagonal();
        x.setWeight(0);
        ask(x, 1, "1**");
        Check.same("one", x.value(0), 5);
        ask(x, 11, "1**");
        Check.same("twelve", x.value(0), 60);
        ask(x, 1, "***");
        Check.same("one is forgotten", x.value(0), 55);
        x.setWeight(11);
        Check.same("as much as its weight", x.value(0), 0);
        x.setWeight(12);
        Check.same("less than its weight", x.value(0), -5);
    }

    private static void lossBesideOthers() {
        Check.sentence("the loss: with the other kept orders as they are");
        TripleWays x = Check.diagonal();
        x.setWeight(1);
        ask(x, 2, "1**");
        x.build(1);
        Check.same("the order 0, beside 1", x.value(0), -5);
        Check.same("the order 1, beside 0", x.value(1), -5);
        x.drop(0);
        Check.same("the order 1 alone", x.value(1), 5);
        Check.same("the gain of 0", x.value(0), -5);
    }

    private static void valueOfNoOrder() {
        Check.sentence("promise 26: IndexOutOfBoundsException if there is no such order");
        TripleWays x = Check.diagonal();
        for (int q : new int[] {-1, 6, Integer.MIN_VALUE, Integer.MAX_VALUE, 32}) {
            Check.index("value(" + q + ")", () -> x.value(q));
        }
        Check.same("value(0)", x.value(0), -20);
        Check.same("value(5)", x.value(5), -20);
    }

    private static void valueOfEither() {
        Check.sentence("promise 26: returns its gain, if it is not kept, otherwise its loss");
        TripleWays x = Check.diagonal();
        x.setWeight(1);
        ask(x, 2, "**1");
        Check.same("the gain of 4", x.value(4), 5);
        x.build(4);
        Check.same("the loss of 4", x.value(4), 5);
        x.drop(4);
        Check.same("the gain again", x.value(4), 5);
        Check.same("the loss of 0", x.value(0), -5);
        x.drop(0);
        Check.same("the gain of 0", x.value(0), -5);
    }

    // ---- advised

    private static void advisedAboveZero() {
        Check.sentence("promise 27: if the greatest gain is above 0");
        TripleWays x = four();
        x.setWeight(1);
        ask(x, 3, "*5*");
        Check.same("a gain of -1", x.advised(), -1);
        ask(x, 1, "*5*");
        Check.same("value(2)", x.value(2), 0);
        Check.same("a gain of 0", x.advised(), -1);
        ask(x, 1, "*5*");
        Check.same("value(2)", x.value(2), 1);
        Check.same("a gain of 1", x.advised(), 2);
    }

    private static void advisedLowest() {
        Check.sentence("promise 27: among several the lowest");
        TripleWays x = Check.diagonal();
        x.setWeight(0);
        ask(x, 1, "**1");
        Check.same("4 and 5", x.advised(), 4);
        x.drop(0);
        ask(x, 1, "111");
        ask(x, 1, "1**");
        ask(x, 1, "*1*");
        Check.same("all six", x.advised(), 0);
    }

    private static void advisedGreatest() {
        Check.sentence("promise 27: the order with the greatest gain");
        TripleWays x = Check.diagonal();
        x.setWeight(0);
        ask(x, 1, "*1*");
        ask(x, 2, "**1");
        Check.same("4 before 2", x.advised(), 4);
        ask(x, 2, "*1*");
        Check.same("2 before 4", x.advised(), 2);
        ask(x, 3, "*15");
        Check.same("3 before 2", x.advised(), 3);
    }

    private static void advisedNotKept() {
        Check.sentence("promise 27: the order that is not kept");
        TripleWays x = Check.diagonal();
        x.setWeight(0);
        ask(x, 3, "1**");
        Check.same("0 is kept", x.advised(), -1);
        x.drop(0);
        Check.same("0 is not kept", x.advised(), 0);
        ask(x, 1, "**1");
        x.build(0);
        Check.same("its loss is greater than a gain", x.advised(), 4);
    }

    private static void advisedNone() {
        Check.sentence("promise 27: NONE if there is none");
        TripleWays x = Check.diagonal();
        x.setWeight(0);
        Check.same("no questions", x.advised(), TripleWays.NONE);
        Check.same("no triples", new TripleWays().advised(), TripleWays.NONE);
        Check.askAll(x, "1**", "*1*", "**1");
        for (int q = 1; q < 6; q++) {
            x.build(q);
        }
        Check.same("all are kept", x.advised(), TripleWays.NONE);
    }

    // ---- spare

    private static void spareBelowZero() {
        Check.sentence("promise 28: if the least loss is below 0");
        TripleWays x = four();
        x.setWeight(1);
        ask(x, 5, "5**");
        Check.same("value(0)", x.value(0), 1);
        Check.same("a loss of 1", x.spare(), -1);
        ask(x, 8, "***");
        Check.same("value(0)", x.value(0), 0);
        Check.same("a loss of 0", x.spare(), -1);
        ask(x, 1, "***");
        Check.same("value(0)", x.value(0), -1);
        Check.same("a loss of -1", x.spare(), 0);
    }

    private static void spareLowest() {
        Check.sentence("promise 28: among several the lowest");
        TripleWays x = four();
        x.build(5);
        x.build(3);
        Check.same("0, 3 and 5", x.spare(), 0);
        x.drop(0);
        Check.same("3 and 5", x.spare(), 3);
        x.drop(3);
        Check.same("5", x.spare(), 5);
    }

    private static void spareLeast() {
        Check.sentence("promise 28: the kept order with the least loss");
        TripleWays x = four();
        x.setWeight(1);
        x.build(2);
        x.build(5);
        ask(x, 1, "5**");
        Check.same("2, not 0", x.spare(), 2);
        ask(x, 2, "*5*");
        Check.same("5, not 0 or 2", x.spare(), 5);
        ask(x, 3, "**5");
        Check.same("0, not 2 or 5", x.spare(), 0);
    }

    private static void spareKept() {
        Check.sentence("promise 28: NONE if there is none");
        TripleWays x = four();
        x.drop(0);
        Check.same("none is kept", x.spare(), TripleWays.NONE);
        x.setWeight(99);
        Check.same("none is kept", x.spare(), TripleWays.NONE);
        x.build(1);
        Check.same("1 is kept", x.spare(), 1);
        x.setWeight(0);
        Check.same("at no weight", x.spare(), TripleWays.NONE);
        Check.same("without triples", new TripleWays().spare(), 0);
    }

    // ---- needed

    private static void need(int due, String... asked) {
        TripleWays x = new TripleWays();
        Check.askAll(x, asked);
        Check.same("needed for " + String.join(" ", asked), x.needed(), due);
    }

    private static void neededOfNone() {
        Check.sentence("promise 29: without remembered questions no order is needed");
        Check.same("a new object", new TripleWays().needed(), 0);
        TripleWays x = Check.diagonal();
        for (int q = 1; q < 6; q++) {
            x.build(q);
        }
        Check.same("all kept", x.needed(), 0);
        x.ask(5);
        x.undo();
        Check.same("taken back", x.needed(), 0);
    }

    private static void neededOfFree() {
        Check.sentence("promise 29: for a question that binds nothing any order does, but there has to be one");
        need(1, "***");
        need(1, "***", "***");
        need(4, "***", "*1*");
        need(32, "***", "**1", "*11");
    }

    private static void neededFewest() {
        Check.sentence("promise 29: the smallest set of orders with which each has one whose reach is all it binds");
        need(32, "**1", "*11");
        need(8, "*1*", "*11");
        need(4, "*1*", "11*");
        need(16, "**1", "1*1");
        need(2, "1**", "1*1");
        need(1, "1**", "11*");
        need(1, "111");
        need(3, "11*", "1*1");
        need(10, "1*1", "*11");
    }

    private static void neededSmallest() {
        Check.sentence("promise 29: of several with the fewest orders the one whose number is smallest");
        need(1, "1**");
        need(4, "*1*");
        need(16, "**1");
        need(1, "11*");
        need(2, "1*1");
        need(8, "*11");
        need(5, "1**", "*1*");
        need(17, "1**", "**1");
        need(20, "*1*", "**1");
        need(21, "1**", "*1*", "**1");
    }

    private static void neededAll() {
        Check.sentence("promise 29: each remembered question has an order");
        need(25, "11*", "1*1", "*11", "1**", "*1*", "**1");
        need(25, "11*", "1*1", "*11", "1**", "*1*", "**1", "***", "111", "0*9", "**0", "*9*", "90*");
        need(11, "11*", "1*1", "*11", "*1*", "1**");
    }

    private static void neededRemembered() {
        Check.sentence("promise 29: each remembered question, not those that are forgotten");
        TripleWays x = new TripleWays();
        ask(x, 1, "**1");
        ask(x, 11, "1**");
        Check.same("the oldest of 12", x.needed(), 17);
        ask(x, 1, "1**");
        Check.same("it is forgotten", x.needed(), 1);
    }

    // ---- ifKept

    private static void ifKeptRange() {
        Check.sentence("promise 30: set is 0 to 63");
        TripleWays x = Check.diagonal();
        for (int set : new int[] {-1, 64, Integer.MIN_VALUE, Integer.MAX_VALUE}) {
            Check.argument("ifKept(" + set + ")", () -> x.ifKept(set));
        }
        Check.askAll(x, "1**", "*1*", "**1", "***");
        Check.same("ifKept(0)", x.ifKept(0), 40);
        Check.same("ifKept(63)", x.ifKept(63), 25);
    }

    private static void ifKeptJustThese() {
        Check.sentence("promise 30: what they would cost if just these were kept");
        TripleWays x = Check.diagonal();
        Check.askAll(x, "1**", "1*2", "*1*", "*12", "**1", "***", "111");
        // 1*2 and *12 cost 4 by an order that reaches both, 5 by one that reaches one.
        int[] due = {55, 54, 55, 54, 49, 49};
        for (int q = 0; q < 6; q++) {
            Check.same("the order " + q + " alone", x.ifKept(1 << q), due[q]);
        }
        Check.same("0 is kept now, but not among these", x.ifKept(4), x.ifKept(5) + 10);
        Check.same("three", x.ifKept(1 + 8 + 16), 5 + 4 + 5 + 4 + 5 + 10 + 5);
    }

    private static void ifKeptNone() {
        Check.sentence("promise 30: without questions, without triples, without orders");
        Check.same("no questions", Check.diagonal().ifKept(63), 0);
        TripleWays x = new TripleWays();
        x.ask(0);
        x.ask(1330);
        Check.same("no triples", x.ifKept(63), 0);
        Check.same("no triples, no orders", x.ifKept(0), 0);
        TripleWays y = Check.upTo(40);
        ask(y, 12, "0**");
        Check.same("a full walk is never dearer", y.ifKept(63), 480);
        Check.same("no orders", y.ifKept(0), 480);
    }

    // ---- bestSet

    private static void bestSetLeast() {
        Check.sentence("promise 31: ifKept(set), and the weight times (look(n) + 1) for each of its orders, are least");
        TripleWays x = four();
        x.setWeight(1);
        ask(x, 5, "5**");
        Check.same("saves 5, weighs 4", x.bestSet(), 1);
        ask(x, 5, "*5*");
        Check.same("two orders save 5 each", x.bestSet(), 5);
        x.setWeight(2);
        Check.same("save 5, weigh 8", x.bestSet(), 0);
        x.setWeight(0);
        ask(x, 1, "**5");
        ask(x, 1, "*55");
        Check.same("all three", x.bestSet(), 21);
        TripleWays y = Check.diagonal();
        y.setWeight(1);
        ask(y, 6, "**1");
        ask(y, 6, "*12");
        Check.same("one order reaches both", y.bestSet(), 32);
    }

    private static void bestSetSmallest() {
        Check.sentence("promise 31: among several the one whose number is smallest");
        TripleWays x = four();
        x.setWeight(1);
        ask(x, 4, "5**");
        Check.same("saves 4, weighs 4", x.bestSet(), 0);
        ask(x, 1, "5**");
        Check.same("1 and 2 alike", x.bestSet(), 1);
        TripleWays y = Check.with(111, 12, 120, 202, 201, 121, 221);
        y.setWeight(0);
        Check.askAll(y, "1*0", "*00");
        // By 1 and 3 they cost 4 and 3, and by 5 alone as well.
        Check.same("ifKept(10)", y.ifKept(10), 7);
        Check.same("ifKept(32)", y.ifKept(32), 7);
        Check.same("two orders with a smaller number than one", y.bestSet(), 10);
    }

    private static void bestSetWeight() {
        Check.sentence("promise 31: without questions, or at a great weight, no order is best");
        TripleWays x = Check.diagonal();
        x.setWeight(0);
        Check.same("no questions, no weight", x.bestSet(), 0);
        Check.same("no triples", new TripleWays().bestSet(), 0);
        ask(x, 12, "111");
        Check.same("no weight", x.bestSet(), 1);
        x.setWeight(11);
        Check.same("60 saved, 55 weighed", x.bestSet(), 1);
        x.setWeight(12);
        Check.same("60 saved, 60 weighed", x.bestSet(), 0);
        x.setWeight(99);
        Check.same("the greatest weight", x.bestSet(), 0);
    }

    private static void adviceChangesNothing() {
        Check.sentence("advice; these and all following methods up to the save slots change nothing");
        TripleWays x = Check.diagonal();
        x.setWeight(1);
        Check.askAll(x, "**1", "**1", "*1*");
        String before = Check.seen(x);
        x.value(0);
        x.value(5);
        x.advised();
        x.spare();
        x.needed();
        x.ifKept(63);
        x.bestSet();
        x.runScript(2, 6000020111L);
        x.simulate(3, 99);
        Check.alike("the state", Check.seen(x), before);
        Check.same("no action", x.undo(), 13);
        Check.same("the last action", x.about(5), 2);
    }
}
