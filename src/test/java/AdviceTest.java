/** Promises 26 to 31: advice. */
public final class AdviceTest {

    public static void main(String[] args) {
        withoutQuestions();
        values();
        ties();
        needs();
        sums();
        best();
        wrongInputs();
        Check.end();
    }

    private static TripleWays diagonal() {
        return Check.with(0, 111, 222, 333, 444, 555, 666, 777, 888, 999);
    }

    private static void ask(TripleWays x, String... asked) {
        for (String question : asked) {
            x.ask(Check.ask(question));
        }
    }

    private static void withoutQuestions() {
        TripleWays x = diagonal();
        for (int q = 0; q < 6; q++) {
            Check.same("value(" + q + ")", x.value(q), -20);
        }
        Check.same("advised", x.advised(), -1);
        Check.same("spare", x.spare(), 0);
        Check.same("needed", x.needed(), 0);
        Check.same("bestSet", x.bestSet(), 0);
        Check.same("ifKept(63)", x.ifKept(63), 0);
        x.setWeight(0);
        Check.same("value(3)", x.value(3), 0);
        Check.same("advised", x.advised(), -1);
        Check.same("spare", x.spare(), -1);
        Check.same("bestSet", x.bestSet(), 0);
        x.drop(0);
        x.setWeight(99);
        Check.same("spare without orders", x.spare(), -1);
    }

    private static void values() {
        TripleWays x = diagonal();
        x.setWeight(1);
        ask(x, "1**", "1**", "*1*", "**1", "**1", "**1");
        // By a fitting order each costs 5 instead of 10; the upkeep is 5.
        int[] due = {5, -5, 0, 0, 10, 10};
        for (int q = 0; q < 6; q++) {
            Check.same("value(" + q + ")", x.value(q), due[q]);
        }
        Check.same("advised", x.advised(), 4);
        Check.same("spare", x.spare(), -1);
        x.build(5);
        int[] then = {5, -5, 0, 0, -5, 10};
        for (int q = 0; q < 6; q++) {
            Check.same("value(" + q + ")", x.value(q), then[q]);
        }
        Check.same("a gain of 0 is not advised", x.advised(), -1);
        x.build(4);
        Check.same("value(4), beside 5", x.value(4), -5);
        Check.same("value(5), beside 4", x.value(5), -5);
        Check.same("spare", x.spare(), 4);
        x.setWeight(3);
        Check.same("value(0)", x.value(0), -5);
        Check.same("value(4)", x.value(4), -15);
        Check.same("spare", x.spare(), 4);
        Check.same("advice asks nothing", x.about(5), 6);
    }

    private static void ties() {
        TripleWays x = diagonal();
        x.drop(0);
        x.setWeight(0);
        ask(x, "123");
        Check.same("among several the lowest", x.advised(), 0);
        x.build(3);
        x.build(1);
        x.setWeight(2);
        Check.same("spare, among several the lowest", x.spare(), 1);
        ask(x, "*0*");
        Check.same("the least loss", x.spare(), 1);
        x.drop(1);
        Check.same("a loss of 11 - 10", x.value(3), 1);
        Check.same("spare", x.spare(), -1);
        TripleWays y = Check.with(111, 222, 333, 444);
        y.setWeight(0);
        ask(y, "*5*");
        Check.same("a gain of 1", y.value(2), 1);
        Check.same("a gain of 1 is advised", y.advised(), 2);
        y.build(2);
        y.drop(0);
        y.setWeight(1);
        ask(y, "*5*", "*5*");
        Check.same("a loss of 3 - 4", y.value(2), -1);
        Check.same("a loss of -1 is told", y.spare(), 2);
    }

    private static void needs() {
        need(0);
        need(1, "***");
        need(1, "***", "***", "1**");
        need(4, "*1*");
        need(4, "*1*", "***");
        need(16, "**1");
        need(2, "1*1");
        need(1, "11*");
        need(8, "*11");
        need(1, "111");
        need(4, "*1*", "11*");
        need(8, "*1*", "*11");
        need(3, "1*1", "11*");
        need(17, "1*1", "**1", "1**");
        need(17, "11*", "**1");
        need(11, "1*1", "11*", "*11");
        need(11, "11*", "1*1", "*11", "1**", "*1*");
        need(25, "11*", "1*1", "*11", "*1*", "**1", "1**");
    }

    /** Tells by the reaches alone what is due, beside the number that the test names. */
    private static void need(int named, String... asked) {
        TripleWays x = new TripleWays();
        ask(x, asked);
        int due = -1;
        for (int set = 63; set >= 0; set--) {
            if (fits(set, asked) && (due == -1 || Integer.bitCount(set) <= Integer.bitCount(due))) {
                due = set;
            }
        }
        Check.same("needed, " + String.join(" ", asked), x.needed(), due);
        Check.same("needed, named, " + String.join(" ", asked), x.needed(), named);
    }

    private static boolean fits(int set, String... asked) {
        TripleWays x = new TripleWays();
        for (String question : asked) {
            int bound = question.replace("*", "").length();
            boolean found = false;
            for (int q = 0; q < 6; q++) {
                found |= (set >> q & 1) == 1 && x.reach(Check.ask(question), q) == bound;
            }
            if (!found) {
                return false;
            }
        }
        return true;
    }

    private static void sums() {
        TripleWays x = diagonal();
        ask(x, "1**", "*1*", "**1", "11*", "***", "1**");
        Check.same("ifKept(0)", x.ifKept(0), 60);
        Check.same("ifKept(1)", x.ifKept(1), 60 - 5 * 3);
        Check.same("ifKept(2)", x.ifKept(2), 60 - 5 * 3);
        Check.same("ifKept(4)", x.ifKept(4), 60 - 5 * 2);
        Check.same("ifKept(5)", x.ifKept(5), 60 - 5 * 4);
        Check.same("ifKept(63)", x.ifKept(63), 60 - 5 * 5);
        Check.same("kept is as it was", x.about(1), 1);
        for (int i = 0; i < 10; i++) {
            x.ask(1330);
        }
        Check.same("only the remembered ones", x.ifKept(63), 120 - 5);
        TripleWays y = Check.with(111, 112, 113, 114);
        ask(y, "1**");
        Check.same("never more than a full walk", y.ifKept(1), 4);
    }

    private static void best() {
        TripleWays x = diagonal();
        x.setWeight(1);
        ask(x, "1**", "*1*", "**1");
        Check.same("each order saves what it costs", x.bestSet(), 0);
        ask(x, "*1*");
        Check.same("bestSet", x.bestSet(), 4);
        TripleWays y = diagonal();
        y.setWeight(1);
        ask(y, "1**", "2**");
        Check.same("bestSet of 1 and 2 alike", y.bestSet(), 1);
        ask(x, "**2");
        Check.same("bestSet", x.bestSet(), 20);
        x.setWeight(0);
        Check.same("bestSet", x.bestSet(), 21);
        x.setWeight(2);
        Check.same("two orders save 10 each, which they cost", x.bestSet(), 0);
        x.setWeight(99);
        Check.same("bestSet", x.bestSet(), 0);
    }

    private static void wrongInputs() {
        TripleWays x = diagonal();
        Check.index("value(-1)", () -> x.value(-1));
        Check.index("value(6)", () -> x.value(6));
        Check.argument("ifKept(-1)", () -> x.ifKept(-1));
        Check.argument("ifKept(64)", () -> x.ifKept(64));
    }
}
