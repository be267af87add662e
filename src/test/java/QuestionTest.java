/** Promises 10 to 14: questions. */
public final class QuestionTest {

    public static void main(String[] args) {
        counts();
        reaches();
        costs();
        cheapest();
        answers();
        wrongInputs();
        Check.end();
    }

    private static TripleWays sample() {
        return Check.with(523, 123, 125, 213, 223, 115, 525, 923, 920, 444);
    }

    private static void counts() {
        TripleWays x = sample();
        Check.same("count ***", x.count(Check.ask("***")), 10);
        Check.same("count 1**", x.count(Check.ask("1**")), 3);
        Check.same("count *2*", x.count(Check.ask("*2*")), 7);
        Check.same("count **3", x.count(Check.ask("**3")), 5);
        Check.same("count *23", x.count(Check.ask("*23")), 4);
        Check.same("count 5*3", x.count(Check.ask("5*3")), 1);
        Check.same("count 12*", x.count(Check.ask("12*")), 2);
        Check.same("count 444", x.count(Check.ask("444")), 1);
        Check.same("count 445", x.count(Check.ask("445")), 0);
        x.add(0);
        x.add(900);
        Check.same("count 000", x.count(0), 1);
        Check.same("count 900", x.count(Check.ask("900")), 1);
        Check.same("count 9**", x.count(Check.ask("9**")), 3);
        Check.same("count *** of none", new TripleWays().count(1330), 0);
        Check.same("count 000 of none", new TripleWays().count(0), 0);
        Check.same("counting asks nothing", x.about(5), 0);
    }

    private static void reaches() {
        TripleWays x = new TripleWays();
        String[] asked = {"***", "1**", "*1*", "**1", "11*", "1*1", "*11", "111"};
        int[][] due = {
            {0, 0, 0, 0, 0, 0}, {1, 1, 0, 0, 0, 0}, {0, 0, 1, 1, 0, 0}, {0, 0, 0, 0, 1, 1},
            {2, 1, 2, 1, 0, 0}, {1, 2, 0, 0, 2, 1}, {0, 0, 1, 2, 1, 2}, {3, 3, 3, 3, 3, 3}};
        for (int i = 0; i < asked.length; i++) {
            for (int q = 0; q < 6; q++) {
                Check.same("reach " + asked[i] + " " + q, x.reach(Check.ask(asked[i]), q), due[i][q]);
            }
        }
    }

    private static void costs() {
        TripleWays x = sample();
        Check.same("look(10)", x.about(7), 4);
        int[][] due = {
            {10, 10, 10, 10, 10, 10}, {7, 7, 10, 10, 10, 10}, {10, 10, 11, 11, 10, 10}, {10, 10, 10, 10, 9, 9},
            {6, 6, 6, 11, 10, 10}, {6, 5, 10, 10, 5, 9}, {10, 10, 11, 8, 9, 8}, {5, 5, 5, 5, 5, 5}};
        String[] asked = {"***", "1**", "*2*", "**3", "52*", "5*3", "*23", "444"};
        for (int i = 0; i < asked.length; i++) {
            for (int q = 0; q < 6; q++) {
                Check.same("cost " + asked[i] + " by " + q, x.cost(Check.ask(asked[i]), q), due[i][q]);
            }
        }
        Check.same("nothing fits 78*: look alone", x.cost(Check.ask("78*"), 0), 4);
        Check.same("cost of a store without triples", new TripleWays().cost(0, 0), 0);
        Check.same("cost of a store without triples", new TripleWays().cost(0, -1), 0);
    }

    private static void cheapest() {
        TripleWays x = sample();
        now(x, "5*3", 6, 0);
        now(x, "**3", 10, -1);
        now(x, "*2*", 10, -1);
        x.build(5);
        x.build(4);
        now(x, "5*3", 5, 4);
        now(x, "**3", 9, 4);
        now(x, "*23", 8, 5);
        x.build(2);
        x.build(3);
        now(x, "*2*", 10, -1);
        now(x, "*23", 8, 3);
        now(x, "444", 5, 0);
        now(x, "***", 10, -1);
        x.drop(0);
        now(x, "444", 5, 2);
        now(x, "12*", 6, 2);
        TripleWays y = Check.with(111, 222, 333, 344);
        now(y, "1**", 4, -1);
        now(y, "5**", 3, 0);
        y.drop(0);
        now(y, "5**", 4, -1);
    }

    private static void now(TripleWays x, String asked, int cost, int by) {
        Check.same("cost " + asked, x.cost(Check.ask(asked), -1), cost);
        Check.same("by " + asked, x.by(Check.ask(asked)), by);
    }

    private static void answers() {
        TripleWays x = sample();
        come(x, "*2*", 523, 123, 125, 223, 525, 923, 920);
        come(x, "1**", 115, 123, 125);
        come(x, "**3", 523, 123, 213, 223, 923);
        x.build(4);
        come(x, "**3", 123, 213, 223, 523, 923);
        x.build(5);
        come(x, "*23", 123, 223, 523, 923);
        x.drop(4);
        come(x, "**3", 213, 123, 223, 523, 923);
        x.drop(0);
        come(x, "1**", 123, 125, 115);
        x.build(1);
        come(x, "1**", 123, 115, 125);
        come(x, "***", 523, 123, 125, 213, 223, 115, 525, 923, 920, 444);
        come(x, "778");
        Check.same("answer, greatest place", x.answer(1330, Integer.MAX_VALUE), -1);
    }

    private static void come(TripleWays x, String asked, int... due) {
        for (int i = 0; i < due.length; i++) {
            Check.same("answer " + asked + " " + i, x.answer(Check.ask(asked), i), due[i]);
        }
        Check.same("answer " + asked + " behind the last one", x.answer(Check.ask(asked), due.length), -1);
    }

    private static void wrongInputs() {
        TripleWays x = sample();
        for (int wrong : new int[] {-1, 1331, Integer.MIN_VALUE, Integer.MAX_VALUE}) {
            Check.argument("count", () -> x.count(wrong));
            Check.argument("cost", () -> x.cost(wrong, 0));
            Check.argument("cost, the question is named first", () -> x.cost(wrong, 6));
            Check.argument("by", () -> x.by(wrong));
            Check.argument("reach", () -> x.reach(wrong, 0));
            Check.argument("reach, the question is named first", () -> x.reach(wrong, -1));
            Check.argument("answer", () -> x.answer(wrong, 0));
        }
        Check.index("cost by 6", () -> x.cost(0, 6));
        Check.index("cost by -2", () -> x.cost(0, -2));
        Check.index("reach of 6", () -> x.reach(0, 6));
        Check.index("reach of NONE", () -> x.reach(0, -1));
        Check.argument("answer -1", () -> x.answer(0, -1));
        Check.state("questions are no actions", () -> undoAll(x));
    }

    private static int undoAll(TripleWays x) {
        for (int i = 0; i < 10; i++) {
            x.undo();
        }
        return x.undo();
    }
}
