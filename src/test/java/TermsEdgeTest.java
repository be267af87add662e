/** The boundary cases of "Terms", triples and orders, questions, costs: a test for each sentence. */
public final class TermsEdgeTest {

    private static final String[] ORDERS = {"012", "021", "102", "120", "201", "210"};
    private static final int[] SIZES = {0, 1, 2, 3, 4, 7, 8, 15, 16, 31, 32, 39, 40};
    private static final int[] LOOKS = {0, 1, 2, 2, 3, 3, 4, 4, 5, 5, 6, 6, 6};

    public static void main(String[] args) {
        digits();
        atMostForty();
        noTwoAlike();
        asTheyCame();
        sixOrders();
        firstOrder();
        looks();
        boundOrFree();
        answersFit();
        reaches();
        fullWalks();
        reachOfZero();
        reachOfSome();
        lowestOrder();
        lessThanFullWalk();
        orderOfAnswers();
        upkeepBefore();
        upkeepOfEach();
        buildingCosts();
        answerCosts();
        twelveQuestions();
        asOftenAsAsked();
        weights();
        Check.end();
    }

    private static int look(int n) {
        return 32 - Integer.numberOfLeadingZeros(n);
    }

    // ---- triples and orders

    private static void digits() {
        Check.sentence("a triple is three digits 0 to 9, told as 100 * a + 10 * b + c");
        TripleWays x = Check.with(0, 9, 90, 900, 999);
        Check.places(x, 0, 0, 9, 90, 900, 999);
        Check.places(x, 5, 0, 900, 90, 9, 999);
        Check.answers(x, "**9", 9, 999);
        Check.answers(x, "*9*", 90, 999);
        Check.answers(x, "9**", 900, 999);
    }

    private static void atMostForty() {
        Check.sentence("there are at most 40 triples");
        TripleWays x = Check.upTo(39);
        Check.same("the 40th", x.add(999), 1);
        Check.state("the 41st", () -> x.add(998));
        Check.same("triples", x.about(0), 40);
        Check.same("the last one", x.triple(-1, 39), 999);
        Check.same("the last one by the order 0", x.triple(0, 39), 999);
        x.remove(0);
        Check.same("the 40th again", x.add(998), 1);
        Check.state("the 41st again", () -> x.add(0));
    }

    private static void noTwoAlike() {
        Check.sentence("no two triples are alike");
        TripleWays x = Check.with(0, 999, 0, 999);
        Check.places(x, -1, 0, 999);
        x.remove(0);
        Check.same("one is left", x.about(0), 1);
    }

    private static void asTheyCame() {
        Check.sentence("triples have the order in which they came");
        TripleWays x = Check.with(999, 0, 500, 1);
        Check.places(x, -1, 999, 0, 500, 1);
        x.remove(999);
        Check.places(x, -1, 0, 500, 1);
        x.remove(1);
        Check.places(x, -1, 0, 500);
        x.add(999);
        x.add(0);
        x.remove(500);
        Check.places(x, -1, 0, 999);
        x.remove(0);
        x.add(0);
        Check.places(x, -1, 999, 0);
    }

    private static void sixOrders() {
        Check.sentence("an order compares by its components, one behind the other");
        for (int q = 0; q < 6; q++) {
            int[] due = {placed(q, 1, 9, 9), placed(q, 2, 0, 9), placed(q, 2, 1, 8), placed(q, 2, 1, 9)};
            Check.places(Check.with(due[3], due[2], due[1], due[0]), q, due);
            Check.places(Check.with(due[1], due[3], due[0], due[2]), q, due);
            for (int digit = 0; digit < 9; digit++) {
                neighbours(q, digit, digit + 1);
            }
        }
    }

    /** The eight triples of two digits by an order, added last first. */
    private static void neighbours(int q, int low, int high) {
        int[] due = new int[8];
        TripleWays x = new TripleWays();
        for (int i = 7; i >= 0; i--) {
            due[i] = placed(q, i < 4 ? low : high, i / 2 % 2 == 0 ? low : high, i % 2 == 0 ? low : high);
            x.add(due[i]);
        }
        Check.places(x, q, due);
    }

    /** The triple with these digits where the order q looks first, second and third. */
    private static int placed(int q, int first, int second, int third) {
        int[] unit = {100, 10, 1};
        return first * unit[ORDERS[q].charAt(0) - '0']
            + second * unit[ORDERS[q].charAt(1) - '0']
            + third * unit[ORDERS[q].charAt(2) - '0'];
    }

    private static void firstOrder() {
        Check.sentence("at first the order 0 is kept alone");
        TripleWays x = new TripleWays();
        Check.same("kept", x.about(1), 1);
        Check.state("build(0)", () -> x.build(0));
        for (int q = 1; q < 6; q++) {
            int order = q;
            Check.state("drop(" + q + ")", () -> x.drop(order));
        }
        Check.same("drop(0)", x.drop(0), 0);
    }

    private static void looks() {
        Check.sentence("look(n) is the smallest k with 2^k above n");
        for (int i = 0; i < SIZES.length; i++) {
            Check.same("look(" + SIZES[i] + ")", Check.upTo(SIZES[i]).about(7), LOOKS[i]);
        }
    }

    // ---- questions

    private static void boundOrFree() {
        Check.sentence("a question is 121 * a + 11 * b + c, with 10 for a free component");
        TripleWays x = Check.with(0, 5, 50, 500, 999);
        Check.same("000", x.count(0), 1);
        Check.same("00*", x.count(10), 2);
        Check.same("0*0", x.count(110), 2);
        Check.same("*00", x.count(1210), 2);
        Check.same("999", x.count(9 * 121 + 9 * 11 + 9), 1);
        Check.same("***", x.count(1330), 5);
        Check.same("0**", x.count(120), 3);
        Check.same("*0*", x.count(1220), 3);
        Check.same("**0", x.count(1320), 3);
    }

    private static void answersFit() {
        Check.sentence("answers are the triples whose components are as the bound ones tell");
        TripleWays x = Check.with(123, 124, 133, 223);
        Check.answers(x, "123", 123);
        Check.answers(x, "122");
        Check.answers(x, "12*", 123, 124);
        Check.answers(x, "*23", 123, 223);
        Check.answers(x, "1*3", 123, 133);
        Check.answers(x, "***", 123, 124, 133, 223);
        Check.answers(new TripleWays(), "***");
        Check.answers(new TripleWays(), "000");
    }

    private static void reaches() {
        Check.sentence("a reach counts the bound components from the first one on up to the first free one");
        TripleWays x = new TripleWays();
        for (int q = 0; q < 6; q++) {
            for (int set = 0; set < 8; set++) {
                int number = 121 * bound(set, 0) + 11 * bound(set, 1) + bound(set, 2);
                int due = 0;
                while (due < 3 && (set >> ORDERS[q].charAt(due) - '0' & 1) == 1) {
                    due++;
                }
                Check.same("reach(" + number + ", " + q + ")", x.reach(number, q), due);
            }
        }
        Check.same("1*1 by 0: what is behind the free one does not count", x.reach(Check.ask("1*1"), 0), 1);
        Check.same("*11 by 0: the first one is free", x.reach(Check.ask("*11"), 0), 0);
        Check.same("111 by 5: all", x.reach(Check.ask("111"), 5), 3);
        Check.same("*** by 5: none", x.reach(Check.ask("***"), 5), 0);
    }

    /** Bound to 0 and to 9 by turns: either may be taken for free by mistake. */
    private static int bound(int set, int component) {
        return (set >> component & 1) == 0 ? 10 : component == 1 ? 9 : 0;
    }

    private static void fullWalks() {
        Check.sentence("a full walk costs n");
        for (int n : SIZES) {
            TripleWays x = Check.upTo(n);
            Check.same("cost of *** with " + n, x.cost(1330, -1), n);
            Check.same("*** is answered by", x.by(1330), -1);
        }
    }

    private static void reachOfZero() {
        Check.sentence("a kept order costs n if its reach is 0");
        for (int n : new int[] {0, 1, 3, 40}) {
            TripleWays x = Check.upTo(n);
            Check.same("*** by 0", x.cost(1330, 0), n);
            Check.same("*99 by 0", x.cost(Check.ask("*99"), 0), n);
            Check.same("9** by 3", x.cost(Check.ask("9**"), 3), n);
        }
    }

    private static void reachOfSome() {
        Check.sentence("otherwise look(n) and the triples that have the bound components of its reach");
        for (int n : SIZES) {
            TripleWays x = Check.upTo(n);
            Check.same("9** with " + n + ": none has it", x.cost(Check.ask("9**"), 0), look(n));
            Check.same("0** with " + n + ": all have it", x.cost(Check.ask("0**"), 0), look(n) + n);
        }
        TripleWays y = Check.with(110, 120, 130, 211);
        Check.same("1*5 by 0: what is behind the reach does not count", y.cost(Check.ask("1*5"), 0), 3 + 3);
        Check.same("1*0 by 1: all of it", y.cost(Check.ask("1*0"), 1), 3 + 3);
        Check.same("115 by 0: all three, none", y.cost(Check.ask("115"), 0), 3);
        Check.same("110 by 0: all three, one", y.cost(Check.ask("110"), 0), 3 + 1);
        Check.same("11* by 3: the component 1 alone", y.cost(Check.ask("*1*"), 3), 3 + 2);
    }

    /** 5*3 costs 7 by the order 0, 5 by 1 and 4, 6 by 5 and 10 by 2 and 3. */
    private static TripleWays mixed() {
        return Check.with(531, 522, 513, 111, 222, 333, 444, 666, 777, 888);
    }

    private static void lowestOrder() {
        Check.sentence("a question is answered by the cheapest kept order, of several the lowest");
        TripleWays x = mixed();
        int asked = Check.ask("5*3");
        answered(x, asked, 0, 7);
        x.build(5);
        answered(x, asked, 5, 6);
        x.build(4);
        answered(x, asked, 4, 5);
        x.build(1);
        answered(x, asked, 1, 5);
        TripleWays y = Check.diagonal();
        for (int q = 1; q < 6; q++) {
            y.build(q);
        }
        for (int q = 0; q < 6; q++) {
            answered(y, Check.ask("111"), q, 5);
            y.drop(q);
        }
        answered(y, Check.ask("111"), -1, 10);
    }

    private static void answered(TripleWays x, int asked, int by, int cost) {
        Check.same("by(" + asked + ")", x.by(asked), by);
        Check.same("cost(" + asked + ")", x.cost(asked, -1), cost);
    }

    private static void lessThanFullWalk() {
        Check.sentence("by an order if that costs less than n, otherwise by a full walk");
        answered(Check.with(111, 222, 333, 444), Check.ask("5**"), 0, 3);
        answered(Check.with(111, 222, 333, 444), Check.ask("4**"), -1, 4);
        answered(Check.with(111, 222, 433, 444), Check.ask("4**"), -1, 4);
        answered(Check.with(111, 222, 333), Check.ask("5**"), 0, 2);
        answered(Check.with(111, 222), Check.ask("5**"), -1, 2);
        answered(Check.with(111), Check.ask("5**"), -1, 1);
        answered(new TripleWays(), Check.ask("5**"), -1, 0);
        TripleWays x = Check.diagonal();
        x.drop(0);
        answered(x, Check.ask("5**"), -1, 10);
    }

    private static void orderOfAnswers() {
        Check.sentence("answers come in the order that answers, by a full walk as triples came");
        Check.answers(mixed(), "5**", 513, 522, 531);
        Check.answers(Check.with(521, 512, 111, 222, 333), "5**", 521, 512);
        Check.answers(Check.with(521, 512, 111, 222, 333, 444), "5**", 512, 521);
        TripleWays x = mixed();
        x.drop(0);
        Check.answers(x, "5**", 531, 522, 513);
        x.build(1);
        Check.answers(x, "5**", 531, 522, 513);
        x.remove(531);
        x.add(531);
        Check.answers(x, "5**", 531, 522, 513);
        x.drop(1);
        Check.answers(x, "5**", 522, 513, 531);
    }

    // ---- costs

    private static void upkeepBefore() {
        Check.sentence("upkeep is look(n) + 1 for each kept order, with the n before");
        TripleWays x = new TripleWays();
        int due = 0;
        for (int n = 0; n < 40; n++) {
            x.add(25 * n);
            due += look(n) + 1;
            Check.same("upkeep of the add to " + n, x.about(2), due);
        }
        for (int n = 40; n > 0; n--) {
            x.remove(25 * n - 25);
            due += look(n) + 1;
            Check.same("upkeep of the remove from " + n, x.about(2), due);
        }
    }

    private static void upkeepOfEach() {
        Check.sentence("upkeep is for each kept order");
        TripleWays x = new TripleWays();
        x.drop(0);
        x.add(1);
        x.remove(1);
        Check.same("no order", x.about(2), 0);
        for (int q = 0; q < 6; q++) {
            x.build(q);
        }
        x.add(1);
        Check.same("six orders, added", x.about(2), 6);
        x.remove(1);
        Check.same("six orders, removed", x.about(2), 6 + 12);
        Check.same("nothing for building", x.about(3), 0);
        Check.same("nothing for answers", x.about(4), 0);
    }

    private static void buildingCosts() {
        Check.sentence("building an order costs n * look(n)");
        for (int i = 0; i < SIZES.length; i++) {
            TripleWays x = Check.upTo(SIZES[i]);
            int upkeep = x.about(2);
            Check.same("build with " + SIZES[i], x.build(5), SIZES[i] * LOOKS[i]);
            Check.same("counted with " + SIZES[i], x.about(3), SIZES[i] * LOOKS[i]);
            Check.same("no upkeep", x.about(2), upkeep);
            Check.same("nothing for answers", x.about(4), 0);
        }
    }

    private static void answerCosts() {
        Check.sentence("asking costs for answers what the question costs");
        TripleWays none = new TripleWays();
        none.ask(1330);
        Check.same("without triples", none.about(4), 0);
        TripleWays x = Check.diagonal();
        x.ask(Check.ask("5**"));
        Check.same("by an order", x.about(4), 5);
        x.ask(Check.ask("*5*"));
        Check.same("by a full walk", x.about(4), 15);
        x.build(2);
        Check.same("what was counted stays", x.about(4), 15);
        x.ask(Check.ask("*5*"));
        Check.same("by the new order", x.about(4), 20);
        Check.same("building", x.about(3), 40);
    }

    private static void twelveQuestions() {
        Check.sentence("at most 12 questions are remembered; when one more is, the oldest is forgotten");
        TripleWays x = new TripleWays();
        for (int i = 0; i < 12; i++) {
            x.ask(i);
        }
        Check.same("remembered, 12", x.about(6), 12);
        Check.same("the oldest of 12", x.remembered(11), 0);
        x.ask(1330);
        Check.same("remembered, 13 asked", x.about(6), 12);
        Check.same("the newest of 13", x.remembered(0), 1330);
        Check.same("the oldest of 13", x.remembered(11), 1);
        Check.same("none behind it", x.remembered(12), -1);
        Check.same("asked", x.about(5), 13);
        for (int i = 0; i < 30; i++) {
            x.ask(100 + i);
        }
        Check.same("remembered, 43 asked", x.about(6), 12);
        Check.same("the oldest of 43", x.remembered(11), 118);
        Check.same("asked", x.about(5), 43);
    }

    private static void asOftenAsAsked() {
        Check.sentence("a question is remembered as often as it was asked");
        TripleWays x = new TripleWays();
        for (int i = 0; i < 13; i++) {
            x.ask(7);
            Check.same("remembered", x.about(6), Math.min(12, i + 1));
        }
        Check.same("the oldest", x.remembered(11), 7);
    }

    private static void weights() {
        Check.sentence("the weight is 0 to 99, at first 4");
        TripleWays x = new TripleWays();
        Check.same("weight at first", x.weight(), 4);
        x.setWeight(0);
        Check.same("least", x.weight(), 0);
        x.setWeight(99);
        Check.same("greatest", x.weight(), 99);
        Check.argument("100", () -> x.setWeight(100));
        Check.argument("-1", () -> x.setWeight(-1));
        Check.same("as it was", x.weight(), 99);
    }
}
