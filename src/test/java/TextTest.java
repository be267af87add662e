/** Promises 2 to 5: the text. */
public final class TextTest {

    public static void main(String[] args) {
        appending();
        clearing();
        errorsOfTriples();
        errorsOfQuestions();
        questions();
        Check.end();
    }

    private static void appending() {
        TripleWays x = new TripleWays();
        Check.argument("append(-1)", () -> x.append(-1));
        Check.argument("append(256)", () -> x.append(256));
        Check.argument("append(304), 256 above '0'", () -> x.append(304));
        Check.argument("append(least)", () -> x.append(Integer.MIN_VALUE));
        Check.same("append(0)", x.append(0), 1);
        Check.same("append(255)", x.append(255), 2);
        for (int length = 3; length <= 100; length++) {
            Check.same("append('7')", x.append('7'), length);
        }
        Check.state("append to 100", () -> x.append('7'));
        Check.argument("append(256) to 100", () -> x.append(256));
        Check.argument("append(-1) to 100", () -> x.append(-1));
        Check.same("the length behind refused ones", x.clearText(), 100);
        Check.same("append to the emptied text", x.append('7'), 1);
    }

    private static void clearing() {
        TripleWays x = new TripleWays();
        Check.same("clearText, new", x.clearText(), 0);
        Check.write(x, "12*");
        Check.same("clearText", x.clearText(), 3);
        Check.same("clearText, empty", x.clearText(), 0);
        Check.same("errorPosition, empty", x.errorPosition(true), 0);
        Check.write(x, "9");
        Check.same("no old signs", x.errorPosition(true), 1);
    }

    private static void errorsOfTriples() {
        triplesError("", 0);
        triplesError("1", 1);
        triplesError("12", 2);
        triplesError("123", -1);
        triplesError("123,", 4);
        triplesError("123,4", 5);
        triplesError("123,45", 6);
        triplesError("123,456", -1);
        triplesError("123,456,", 8);
        triplesError("123,123", -1);
        triplesError("000,999", -1);
        triplesError("1234", 3);
        triplesError("123;456", 3);
        triplesError("123 ", 3);
        triplesError(" 123", 0);
        triplesError(",123", 0);
        triplesError("12,", 2);
        triplesError("12*", 2);
        triplesError("123,,", 4);
        triplesError("123,4a", 5);
        triplesError("/23", 0);
        triplesError(":23", 0);
        triplesError("123,456x", 7);
        triplesError("" + (char) 178, 0);
        String full = "123,".repeat(25);
        triplesError(full.substring(0, 99), -1);
        triplesError(full, 100);
    }

    private static void triplesError(String text, int due) {
        TripleWays x = new TripleWays();
        Check.write(x, text);
        Check.same("errorPosition(false) of " + text, x.errorPosition(false), due);
        Check.same("the length of " + text, x.clearText(), text.length());
    }

    private static void errorsOfQuestions() {
        questionError("", 0);
        questionError("1", 1);
        questionError("*", 1);
        questionError("1*", 2);
        questionError("123", -1);
        questionError("***", -1);
        questionError("0*9", -1);
        questionError("1234", 3);
        questionError("***,", 3);
        questionError("1,3", 1);
        questionError("/23", 0);
        questionError(":23", 0);
        questionError("1+3", 1);
        questionError("12)", 2);
        questionError("a234", 0);
        questionError("12" + (char) 0, 2);
    }

    private static void questionError(String text, int due) {
        TripleWays x = new TripleWays();
        Check.write(x, text);
        Check.same("errorPosition(true) of " + text, x.errorPosition(true), due);
        if (due != -1) {
            Check.state("question() of " + text, x::question);
        }
    }

    private static void questions() {
        question("000", 0);
        question("***", 1330);
        question("9**", 9 * 121 + 120);
        question("*7*", 1210 + 77 + 10);
        question("**4", 1210 + 110 + 4);
        question("12*", 121 + 22 + 10);
        question("999", 9 * 133);
    }

    private static void question(String text, int due) {
        TripleWays x = new TripleWays();
        Check.write(x, text);
        Check.same("question() of " + text, x.question(), due);
        Check.same("question() of " + text + " again", x.question(), due);
    }
}
