/** Promises 15 and 16: joins. */
public final class JoinTest {

    public static void main(String[] args) {
        pairs();
        lookingUp();
        merging();
        wrongInputs();
        Check.end();
    }

    private static TripleWays sample() {
        return Check.with(112, 121, 211, 122, 221, 212, 133, 313, 331, 900);
    }

    private static void pairs() {
        TripleWays x = sample();
        int all = Check.ask("***");
        // By the component 0 there are four 1s, three 2s, two 3s and one 9.
        Check.same("pairs of all, 0 and 0", x.pairs(all, all, 0, 0), 16 + 9 + 4 + 1);
        // By the component 1: 1 2 1 2 2 1 3 1 3 0.
        Check.same("pairs of all, 0 and 1", x.pairs(all, all, 0, 1), 4 * 4 + 3 * 3 + 2 * 2);
        Check.same("pairs of 1** and all, 1 and 0", x.pairs(Check.ask("1**"), all, 1, 0), 4 + 3 + 3 + 2);
        Check.same("pairs, a is bound", x.pairs(Check.ask("1**"), all, 0, 0), 16);
        Check.same("pairs, b is bound", x.pairs(all, Check.ask("1**"), 0, 0), 16);
        Check.same("pairs, both alike", x.pairs(Check.ask("1**"), Check.ask("1**"), 0, 0), 16);
        Check.same("pairs, both unlike", x.pairs(Check.ask("1**"), Check.ask("2**"), 0, 0), 0);
        Check.same("pairs, across", x.pairs(Check.ask("9**"), Check.ask("**0"), 1, 2), 1);
        Check.same("pairs of none", new TripleWays().pairs(all, all, 0, 0), 0);
    }

    private static void lookingUp() {
        TripleWays x = sample();
        int all = Check.ask("***");
        // look(10) is 4: 1** costs 8, 2** costs 7, 3** costs 6, 9** costs 5, 0** costs 4.
        Check.same("all, 1 and 0", x.joinCost(all, all, 1, 0, false), 10 + 4 * 8 + 3 * 7 + 2 * 6 + 4);
        Check.same("all, 0 and 1, by full walks", x.joinCost(all, all, 0, 1, false), 10 + 10 * 10);
        Check.same("1**, 1 and 0", x.joinCost(Check.ask("1**"), all, 1, 0, false), 8 + 8 + 7 + 7 + 6);
        Check.same("b is bound", x.joinCost(all, Check.ask("2**"), 0, 0, false), 10 + 3 * 7);
        Check.same("b is bound, elsewhere", x.joinCost(all, Check.ask("7**"), 0, 0, false), 10);
        Check.same("b is bound to the one digit", x.joinCost(Check.ask("9**"), Check.ask("**0"), 2, 2, false), 5 + 10);
        Check.same("no answers of the first", x.joinCost(Check.ask("7**"), all, 0, 0, false), 4);
        x.build(2);
        Check.same("all, 0 and 1, by the order 2", x.joinCost(all, all, 0, 1, false),
            10 + 4 * 8 + 3 * 7 + 2 * 6 + 4);
        Check.same("none", new TripleWays().joinCost(all, all, 0, 0, false), 0);
        Check.same("joins ask nothing", x.about(4), 0);
    }

    private static void merging() {
        TripleWays x = sample();
        int all = Check.ask("***");
        Check.same("all, 0 and 0", x.joinCost(all, all, 0, 0, true), 20);
        Check.same("all, 0 and 1", x.joinCost(all, all, 0, 1, true), -1);
        Check.same("all, 1 and 0", x.joinCost(all, all, 1, 0, true), -1);
        Check.same("1** and all, 1 and 0", x.joinCost(Check.ask("1**"), all, 1, 0, true), 8 + 10);
        Check.same("1** and all, 2 and 0", x.joinCost(Check.ask("1**"), all, 2, 0, true), -1);
        Check.same("12* and 3**, 2 and 1", x.joinCost(Check.ask("12*"), Check.ask("3**"), 2, 1, true), 6 + 6);
        Check.same("a is bound", x.joinCost(Check.ask("1**"), all, 0, 0, true), -1);
        Check.same("b is bound", x.joinCost(all, Check.ask("1**"), 0, 0, true), -1);
        Check.same("all is bound", x.joinCost(Check.ask("112"), all, 0, 0, true), -1);
        Check.same("a is bound behind the reach", x.joinCost(Check.ask("1*2"), all, 2, 0, true), -1);
        Check.same("the reach is not all", x.joinCost(Check.ask("1*2"), all, 1, 0, true), -1);
        x.build(4);
        Check.same("1*2 by the order 4", x.joinCost(Check.ask("1*2"), all, 1, 0, true), 6 + 10);
        Check.same("all by the order 4", x.joinCost(all, all, 2, 2, true), 20);
        x.drop(0);
        Check.same("not by an order that is dropped", x.joinCost(all, all, 0, 0, true), -1);
        TripleWays y = Check.with(111, 112, 113, 114);
        int ones = Check.ask("1**");
        Check.same("by the order alone, more than n", y.joinCost(ones, ones, 1, 1, true), 7 + 7);
        Check.same("none", new TripleWays().joinCost(all, all, 0, 0, true), 0);
    }

    private static void wrongInputs() {
        TripleWays x = sample();
        for (int wrong : new int[] {-1, 1331}) {
            Check.argument("pairs", () -> x.pairs(wrong, 0, 0, 0));
            Check.argument("pairs", () -> x.pairs(0, wrong, 0, 0));
            Check.argument("joinCost", () -> x.joinCost(wrong, 0, 0, 0, true));
            Check.argument("joinCost", () -> x.joinCost(0, wrong, 0, 0, false));
        }
        for (int wrong : new int[] {-1, 3}) {
            Check.argument("pairs", () -> x.pairs(0, 0, wrong, 0));
            Check.argument("pairs", () -> x.pairs(0, 0, 0, wrong));
            Check.argument("joinCost", () -> x.joinCost(0, 0, wrong, 0, false));
            Check.argument("joinCost", () -> x.joinCost(0, 0, 0, wrong, true));
        }
    }
}
