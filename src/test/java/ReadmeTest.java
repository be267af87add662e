/** The example of README.md: each call answers what is told there. */
public final class ReadmeTest {

    public static void main(String[] args) {
        TripleWays x = new TripleWays();
        int question = reads(x);
        asks(x, question);
        advises(x, question);
        Check.end();
    }

    private static int reads(TripleWays x) {
        Check.write(x, "123,145,267,389,401,412,534,556,678,790");
        Check.same("errorPosition", x.errorPosition(false), TripleWays.NONE);
        Check.same("addAll", x.addAll(), 10);
        Check.write(x, "*23");
        int question = x.question();
        Check.same("question", question, 1235);
        return question;
    }

    private static void asks(TripleWays x, int question) {
        Check.same("count", x.count(question), 1);
        Check.same("answer", x.answer(question, 0), 123);
        Check.same("by", x.by(question), TripleWays.NONE);
        Check.same("cost now", x.cost(question, TripleWays.NONE), 10);
        Check.same("cost by the order 2", x.cost(question, 2), 5);
        Check.same("ask", x.ask(question), 1);
        Check.same("ask once more", x.ask(question), 1);
    }

    private static void advises(TripleWays x, int question) {
        Check.same("setWeight", x.setWeight(1), 4);
        Check.same("value", x.value(2), 5);
        Check.same("advised", x.advised(), 2);
        Check.same("tidy", x.tidy(), 12);
        Check.same("cost then", x.cost(question, TripleWays.NONE), 5);
        Check.same("tidy once more", x.tidy(), 0);
        Check.same("undo", x.undo(), 5);
        Check.same("about(1)", x.about(1), 5);
    }
}
