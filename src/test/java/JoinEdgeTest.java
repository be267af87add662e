/** The boundary cases of "Joins", and of promises 15 and 16: a test for each sentence. */
public final class JoinEdgeTest {

    private static final int ALL = 1330;

    public static void main(String[] args) {
        aPairForEach();
        pairsOfNone();
        pairsOfAll();
        pairsOfBound();
        pairsRange();
        lookingUpEachAnswer();
        lookingUpBoundAlike();
        lookingUpBoundElse();
        lookingUpNone();
        mergingWithoutFullWalk();
        mergingReachesAll();
        mergingNextComponent();
        mergingFreeComponents();
        mergingBothSides();
        mergingKeptOrders();
        mergingNone();
        joinCostRange();
        Check.end();
    }

    private static int join(TripleWays x, String first, String second, int a, int b, boolean merged) {
        return x.joinCost(Check.ask(first), Check.ask(second), a, b, merged);
    }

    private static int pairs(TripleWays x, String first, String second, int a, int b) {
        return x.pairs(Check.ask(first), Check.ask(second), a, b);
    }

    // ---- pairs

    private static void aPairForEach() {
        Check.sentence("a join has a pair for each answer x and each answer y with the component a of x the component b of y");
        TripleWays x = Check.with(120, 210, 333);
        // The components 0: 1 2 3; the components 1: 2 1 3; the components 2: 0 0 3.
        Check.same("0 and 0: each with itself", pairs(x, "***", "***", 0, 0), 3);
        Check.same("0 and 1", pairs(x, "***", "***", 0, 1), 3);
        Check.same("0 and 2", pairs(x, "***", "***", 0, 2), 1);
        Check.same("2 and 2: 0 and 3", pairs(x, "***", "***", 2, 2), 5);
        Check.same("1** with all, 1 and 0", pairs(x, "1**", "***", 1, 0), 1);
        Check.same("1** with 1**, 1 and 0", pairs(x, "1**", "1**", 1, 0), 0);
    }

    private static void pairsOfNone() {
        Check.sentence("a join without answers has no pairs");
        Check.same("no triples", new TripleWays().pairs(ALL, ALL, 0, 0), 0);
        TripleWays x = Check.with(111);
        Check.same("none of the first", pairs(x, "2**", "***", 1, 1), 0);
        Check.same("none of the second", pairs(x, "***", "2**", 1, 1), 0);
        Check.same("one of each", pairs(x, "***", "***", 1, 1), 1);
    }

    private static void pairsOfAll() {
        Check.sentence("a join of 40 with 40 has 1600 pairs");
        TripleWays x = Check.upTo(40);
        Check.same("the component 0 is 0 in all", x.pairs(ALL, ALL, 0, 0), 1600);
        Check.same("four of each digit", x.pairs(ALL, ALL, 2, 2), 160);
        Check.same("none of 4 and above", x.pairs(ALL, ALL, 1, 2), 160);
    }

    private static void pairsOfBound() {
        Check.sentence("a join by bound components has the pairs of the digits they are bound to");
        TripleWays x = Check.with(119, 129, 219, 990);
        Check.same("a is bound", pairs(x, "1**", "***", 0, 0), 4);
        Check.same("b is bound", pairs(x, "***", "1**", 0, 0), 4);
        Check.same("both, alike", pairs(x, "1**", "1**", 0, 0), 4);
        Check.same("both, unlike", pairs(x, "1**", "2**", 0, 0), 0);
        Check.same("the digit 9", pairs(x, "**9", "9**", 2, 0), 3);
        Check.same("the digit 0", pairs(x, "**0", "**0", 2, 2), 1);
    }

    private static void pairsRange() {
        Check.sentence("promise 15: IllegalArgumentException if an argument is out of range");
        TripleWays x = Check.with(111);
        for (int wrong : new int[] {-1, 1331, Integer.MIN_VALUE, Integer.MAX_VALUE}) {
            Check.argument("first " + wrong, () -> x.pairs(wrong, 0, 0, 0));
            Check.argument("second " + wrong, () -> x.pairs(0, wrong, 0, 0));
        }
        for (int wrong : new int[] {-1, 3, Integer.MIN_VALUE, Integer.MAX_VALUE}) {
            Check.argument("a " + wrong, () -> x.pairs(0, 0, wrong, 0));
            Check.argument("b " + wrong, () -> x.pairs(0, 0, 0, wrong));
            Check.argument("a " + wrong + ", without triples", () -> new TripleWays().pairs(0, 0, wrong, 0));
        }
        Check.same("greatest arguments", x.pairs(ALL, ALL, 2, 2), 1);
        Check.same("least arguments", x.pairs(0, 0, 0, 0), 0);
    }

    // ---- joinCost by looking up

    private static void lookingUpEachAnswer() {
        Check.sentence("by looking up: the first question's cost, and for each of its answers the second one's");
        TripleWays x = Check.with(110, 120, 130, 231, 301, 402, 503, 604);
        // look(8) is 4: 1** costs 7, 2** and 3** cost 5, 0** costs 4.
        Check.same("1** by 1 and 0", join(x, "1**", "***", 1, 0, false), 7 + 7 + 5 + 5);
        Check.same("1** by 2 and 0: thrice the same", join(x, "1**", "***", 2, 0, false), 7 + 3 * 4);
        Check.same("231 by 2 and 0", join(x, "231", "***", 2, 0, false), 5 + 7);
        Check.same("by full walks", join(x, "***", "***", 2, 1, false), 8 + 8 * 8);
        Check.same("other components stay bound", join(x, "231", "*3*", 2, 0, false), 5 + 5);
        Check.same("a is bound too", join(x, "2**", "***", 0, 0, false), 5 + 5);
    }

    private static void lookingUpBoundAlike() {
        Check.sentence("by looking up: as it is, if it is bound to this digit already");
        TripleWays x = Check.diagonal();
        Check.same("7** and 7**", join(x, "7**", "7**", 0, 0, false), 5 + 5);
        Check.same("0** and 0**", join(x, "0**", "0**", 0, 0, false), 5 + 5);
        Check.same("9** and 9**", join(x, "9**", "9**", 0, 0, false), 5 + 5);
        Check.same("all and 7**: one answer", join(x, "***", "7**", 0, 0, false), 10 + 5);
        Check.same("all and *7*, by a full walk", join(x, "***", "*7*", 0, 1, false), 10 + 10);
    }

    private static void lookingUpBoundElse() {
        Check.sentence("by looking up: nothing, if it is bound to another digit");
        TripleWays x = Check.diagonal();
        Check.same("7** and 8**", join(x, "7**", "8**", 0, 0, false), 5);
        Check.same("7** and 0**", join(x, "7**", "0**", 0, 0, false), 5);
        Check.same("0** and 9**", join(x, "0**", "9**", 0, 0, false), 5);
        TripleWays y = Check.with(111, 112);
        Check.same("all and 5**", join(y, "***", "5**", 0, 0, false), 2);
    }

    private static void lookingUpNone() {
        Check.sentence("by looking up: without answers, the first question's cost alone");
        Check.same("no triples", new TripleWays().joinCost(ALL, ALL, 0, 0, false), 0);
        TripleWays x = Check.with(111, 222, 333, 444);
        Check.same("none of the first", join(x, "5**", "***", 0, 0, false), 3);
        Check.same("none of the second still costs", join(x, "111", "5**", 0, 1, false), 4 + 3);
    }

    // ---- joinCost by merging

    private static void mergingWithoutFullWalk() {
        Check.sentence("by merging: the cost by a kept order, without a full walk beside");
        TripleWays x = Check.upTo(40);
        Check.same("0** costs more than n", join(x, "0**", "0**", 1, 1, true), 46 + 46);
        Check.same("all cost n", join(x, "***", "***", 0, 0, true), 40 + 40);
        TripleWays y = Check.with(11);
        Check.same("01* of one", join(y, "01*", "0**", 2, 1, true), 2 + 2);
    }

    private static void mergingReachesAll() {
        Check.sentence("by merging: the order's reach is all the question's bound components");
        TripleWays x = Check.diagonal();
        Check.same("1*1 by 0", join(x, "1*1", "***", 1, 0, true), -1);
        Check.same("*1* by 0", join(x, "*1*", "***", 0, 0, true), -1);
        Check.same("**1 by 0", join(x, "**1", "***", 0, 0, true), -1);
        Check.same("*11 by 0", join(x, "*11", "***", 0, 0, true), -1);
        Check.same("the second one", join(x, "***", "**1", 0, 0, true), -1);
        x.build(1);
        Check.same("1*1 by 1", join(x, "1*1", "***", 1, 0, true), 5 + 10);
        Check.same("the second one by 1", join(x, "***", "1*1", 0, 1, true), 10 + 5);
    }

    private static void mergingNextComponent() {
        Check.sentence("by merging: the order's next component is a, or b");
        int[] first = {0, 0, 1, 1, 2, 2};
        int[] second = {1, 2, 0, 2, 0, 1};
        int[] third = {2, 1, 2, 0, 1, 0};
        String[] bound = {"1**", "*1*", "**1"};
        String[] unbound = {"*11", "1*1", "11*"};
        for (int q = 0; q < 6; q++) {
            TripleWays x = onlyKept(q);
            for (int a = 0; a < 3; a++) {
                Check.same("*** by " + q + ", " + a, merges(x, "***", a, first[q]), a == first[q] ? 1 : 0);
                Check.same("one bound by " + q + ", " + a, merges(x, bound[first[q]], a, first[q]), a == second[q] ? 1 : 0);
                Check.same("two bound by " + q + ", " + a, merges(x, unbound[third[q]], a, first[q]), a == third[q] ? 1 : 0);
                Check.same("three bound by " + q + ", " + a, merges(x, "111", a, first[q]), 0);
            }
        }
    }

    /** Whether the question merges by a, on either side of a question that merges by b. */
    private static int merges(TripleWays x, String question, int a, int b) {
        int cost = x.joinCost(Check.ask(question), ALL, a, b, true);
        Check.same("from the other side", x.joinCost(ALL, Check.ask(question), b, a, true), cost);
        return cost == -1 ? 0 : 1;
    }

    private static TripleWays onlyKept(int q) {
        TripleWays x = Check.diagonal();
        x.drop(0);
        x.build(q);
        return x;
    }

    private static void mergingFreeComponents() {
        Check.sentence("by merging: it is possible if a and b are free");
        TripleWays x = Check.diagonal();
        for (int q = 1; q < 6; q++) {
            x.build(q);
        }
        Check.same("a is bound", join(x, "1**", "***", 0, 0, true), -1);
        Check.same("b is bound", join(x, "***", "1**", 0, 0, true), -1);
        Check.same("a is the second one bound", join(x, "11*", "***", 1, 0, true), -1);
        Check.same("all is bound", join(x, "111", "***", 2, 0, true), -1);
        Check.same("bound to 0", join(x, "0**", "***", 0, 0, true), -1);
        Check.same("both are free", join(x, "1**", "*1*", 1, 0, true), 5 + 5);
    }

    private static void mergingBothSides() {
        Check.sentence("by merging: the same of the second question with b");
        TripleWays x = Check.diagonal();
        Check.same("both by 0", join(x, "***", "***", 0, 0, true), 20);
        Check.same("the second one cannot", join(x, "***", "***", 0, 1, true), -1);
        Check.same("the first one cannot", join(x, "***", "***", 1, 0, true), -1);
        Check.same("neither can", join(x, "***", "***", 1, 1, true), -1);
        x.build(2);
        Check.same("by two orders", join(x, "***", "***", 0, 1, true), 20);
        Check.same("of unlike costs", join(x, "11*", "***", 2, 1, true), 5 + 10);
    }

    private static void mergingKeptOrders() {
        Check.sentence("by merging: by kept orders only");
        TripleWays x = Check.diagonal();
        x.drop(0);
        Check.same("no order", join(x, "***", "***", 0, 0, true), -1);
        x.build(1);
        Check.same("the order 1", join(x, "***", "***", 0, 0, true), 20);
        x.build(0);
        Check.same("the orders 0 and 1", join(x, "***", "***", 0, 0, true), 20);
        x.undo();
        x.undo();
        Check.same("no order again", join(x, "***", "***", 0, 0, true), -1);
    }

    private static void mergingNone() {
        Check.sentence("by merging: a store without triples merges at no cost");
        TripleWays x = new TripleWays();
        Check.same("all", join(x, "***", "***", 0, 0, true), 0);
        Check.same("1**", join(x, "1**", "***", 1, 0, true), 0);
        Check.same("not by what is not kept", join(x, "***", "***", 1, 0, true), -1);
        TripleWays y = Check.diagonal();
        y.remove(111);
        Check.same("no answers: look(9) alone", join(y, "1**", "1**", 1, 1, true), 4 + 4);
    }

    private static void joinCostRange() {
        Check.sentence("promise 16: IllegalArgumentException if an argument is out of range");
        TripleWays x = Check.with(111);
        for (boolean merged : new boolean[] {false, true}) {
            for (int wrong : new int[] {-1, 1331, Integer.MIN_VALUE, Integer.MAX_VALUE}) {
                Check.argument("first " + wrong, () -> x.joinCost(wrong, 0, 0, 0, merged));
                Check.argument("second " + wrong, () -> x.joinCost(0, wrong, 0, 0, merged));
            }
            for (int wrong : new int[] {-1, 3, Integer.MIN_VALUE, Integer.MAX_VALUE}) {
                Check.argument("a " + wrong, () -> x.joinCost(ALL, ALL, wrong, 0, merged));
                Check.argument("b " + wrong, () -> x.joinCost(ALL, ALL, 0, wrong, merged));
            }
        }
        Check.same("greatest arguments", x.joinCost(ALL, ALL, 2, 2, false), 2);
        Check.same("greatest arguments, merged", x.joinCost(ALL, ALL, 2, 2, true), -1);
        Check.same("least arguments", x.joinCost(0, 0, 0, 0, false), 1);
        Check.same("least arguments, merged", x.joinCost(0, 0, 0, 0, true), -1);
    }
}
