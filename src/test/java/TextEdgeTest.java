/** The boundary cases of the text, and of promises 2 to 5: a test for each sentence. */
public final class TextEdgeTest {

    public static void main(String[] args) {
        atMostHundred();
        codes();
        newLength();
        highSigns();
        previousLength();
        oneOrMoreTriples();
        commaBetween();
        threeCharacters();
        digitOrStar();
        firstWrongCharacter();
        tooSoon();
        hundredCharacters();
        checkingChangesNothing();
        noErrorIsNone();
        questionNumbers();
        noQuestion();
        Check.end();
    }

    private static TripleWays saying(String text) {
        TripleWays x = new TripleWays();
        Check.write(x, text);
        return x;
    }

    private static void triples(String text, int due) {
        Check.same("triples '" + text + "'", saying(text).errorPosition(false), due);
    }

    private static void question(String text, int due) {
        Check.same("question '" + text + "'", saying(text).errorPosition(true), due);
    }

    // ---- append and clearText

    private static void atMostHundred() {
        Check.sentence("promise 2: IllegalStateException if the text already has 100 characters");
        TripleWays x = saying("1".repeat(99));
        Check.same("the 100th", x.append('1'), 100);
        Check.state("the 101st", () -> x.append('1'));
        Check.state("the 101st again", () -> x.append(0));
        Check.same("the length", x.clearText(), 100);
        Check.same("the emptied text", x.append('1'), 1);
    }

    private static void codes() {
        Check.sentence("promise 2: c is 0 to 255");
        TripleWays x = new TripleWays();
        for (int c : new int[] {-1, 256, Integer.MIN_VALUE, Integer.MAX_VALUE, 256 + '1', 65536 + '1'}) {
            Check.argument("append(" + c + ")", () -> x.append(c));
        }
        Check.same("append(0)", x.append(0), 1);
        Check.same("append(255)", x.append(255), 2);
    }

    private static void newLength() {
        Check.sentence("promise 2: returns the new length of the text");
        TripleWays x = new TripleWays();
        for (int length = 1; length <= 100; length++) {
            Check.same("append", x.append(length), length);
        }
    }

    private static void highSigns() {
        Check.sentence("a text holds characters 0 to 255, only 0 to 9, * and , have a meaning");
        for (int c = 0; c < 256; c++) {
            TripleWays x = new TripleWays();
            x.append(c);
            boolean digit = c >= '0' && c <= '9';
            Check.same("as triples, " + c, x.errorPosition(false), digit ? 1 : 0);
            Check.same("as a question, " + c, x.errorPosition(true), digit || c == '*' ? 1 : 0);
        }
    }

    private static void previousLength() {
        Check.sentence("promise 3: returns the previous length of the text");
        TripleWays x = new TripleWays();
        Check.same("empty", x.clearText(), 0);
        x.append('1');
        Check.same("one", x.clearText(), 1);
        Check.same("emptied", x.clearText(), 0);
        Check.write(x, "1".repeat(100));
        Check.same("full", x.clearText(), 100);
        Check.same("nothing is left", x.errorPosition(true), 0);
    }

    // ---- errorPosition

    private static void oneOrMoreTriples() {
        Check.sentence("triples as a text are one or more triples, each three digits");
        triples("", 0);
        triples("1", 1);
        triples("12", 2);
        triples("000", -1);
        triples("999", -1);
        triples("1234", 3);
        triples("000,999", -1);
        triples("111,111,111", -1);
    }

    private static void commaBetween() {
        Check.sentence("triples as a text have , between them");
        triples(",", 0);
        triples(",123", 0);
        triples("123,", 4);
        triples("123,,456", 4);
        triples("123,45,678", 6);
        triples("12,345", 2);
        triples("123-456", 3);
        triples("123.456", 3);
        triples("123456", 3);
        triples("123,456,", 8);
        triples("123,4567", 7);
    }

    private static void threeCharacters() {
        Check.sentence("a question as a text is three characters");
        question("", 0);
        question("1", 1);
        question("12", 2);
        question("123", -1);
        question("1234", 3);
        question("123*", 3);
        question("***" + "*".repeat(97), 3);
        question("12" + (char) 0, 2);
    }

    private static void digitOrStar() {
        Check.sentence("a question's characters are each a digit or *");
        question("000", -1);
        question("999", -1);
        question("***", -1);
        question("/11", 0);
        question("1:1", 1);
        question("11)", 2);
        question("11+", 2);
        question("1,1", 1);
        triples("*11", 0);
        triples("1*1", 1);
        triples("11*", 2);
        triples("111*", 3);
        triples("111,*", 4);
    }

    private static void firstWrongCharacter() {
        Check.sentence("the error position is the index of the first character that is not allowed at its place");
        question("xyz", 0);
        question("1yz", 1);
        question("12z", 2);
        question("x", 0);
        question("1x", 1);
        question("1x34", 1);
        triples("x", 0);
        triples("1x,x", 1);
        triples("12x", 2);
        triples("123x", 3);
        triples("123,x", 4);
        triples("123,4x", 5);
        triples("123,45x", 6);
        triples("123,456x", 7);
        triples("123,456,x", 8);
        triples("123,456,7", 9);
    }

    private static void tooSoon() {
        Check.sentence("if the text ends too soon, the error position is its length");
        String whole = "123,456,789";
        for (int length = 0; length <= whole.length(); length++) {
            triples(whole.substring(0, length), length % 4 == 3 ? -1 : length);
        }
        for (int length = 0; length < 3; length++) {
            question("*5*".substring(0, length), length);
        }
    }

    private static void hundredCharacters() {
        Check.sentence("a text of at most 100 characters is 25 triples at most");
        String full = "120,".repeat(25);
        triples(full.substring(0, 99), -1);
        triples(full.substring(0, 98), 98);
        triples(full, 100);
        triples(full.substring(0, 99) + "1", 99);
        triples("1".repeat(100), 3);
        question("1".repeat(100), 3);
    }

    private static void checkingChangesNothing() {
        Check.sentence("promise 4: errorPosition checks the text, and leaves it");
        TripleWays x = saying("1*");
        Check.same("as a question", x.errorPosition(true), 2);
        Check.same("as triples", x.errorPosition(false), 1);
        x.append('3');
        Check.same("as a question", x.errorPosition(true), -1);
        Check.same("as triples", x.errorPosition(false), 1);
        Check.same("as a question again", x.errorPosition(true), -1);
        Check.same("the length", x.clearText(), 3);
    }

    private static void noErrorIsNone() {
        Check.sentence("promise 4: NONE if it is a question, or triples");
        TripleWays x = saying("123");
        Check.same("it is a question", x.errorPosition(true), TripleWays.NONE);
        Check.same("and triples", x.errorPosition(false), TripleWays.NONE);
    }

    // ---- question

    private static void questionNumbers() {
        Check.sentence("promise 5: returns the question as a number");
        Check.same("000", saying("000").question(), 0);
        Check.same("001", saying("001").question(), 1);
        Check.same("00*", saying("00*").question(), 10);
        Check.same("010", saying("010").question(), 11);
        Check.same("0*0", saying("0*0").question(), 110);
        Check.same("100", saying("100").question(), 121);
        Check.same("*00", saying("*00").question(), 1210);
        Check.same("999", saying("999").question(), 1197);
        Check.same("***", saying("***").question(), 1330);
    }

    private static void noQuestion() {
        Check.sentence("promise 5: IllegalStateException if the text is not a question");
        for (String text : new String[] {"", "1", "12", "1234", "12,", "123,456", "x23", "1x3", "12x", "123 "}) {
            TripleWays x = saying(text);
            Check.state("question of '" + text + "'", x::question);
            Check.same("the text is as it was", x.clearText(), text.length());
        }
    }
}
