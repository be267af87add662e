/** The boundary cases of "The public face": 512 calls on one object, and objects that share nothing. */
public final class FaceEdgeTest {

    private static final int CALLS = 512;

    public static void main(String[] args) {
        questionsAsked();
        addedAndRemoved();
        undoneAtTheEnd();
        textsWritten();
        dearestAnswers();
        builtAndDropped();
        shareNothing();
        Check.end();
    }

    private static void questionsAsked() {
        Check.sentence("an object is used for at most 512 calls: it asks in 511 of them");
        TripleWays x = new TripleWays();
        for (int i = 1; i < CALLS; i++) {
            x.ask(i);
        }
        Check.same("asked", x.about(5), 511);
        TripleWays y = new TripleWays();
        for (int i = 1; i < CALLS; i++) {
            y.ask(i);
        }
        Check.same("the oldest one that is remembered", y.remembered(11), 500);
    }

    private static void addedAndRemoved() {
        Check.sentence("an object is used for at most 512 calls: it adds and removes in 511 of them");
        TripleWays x = new TripleWays();
        int due = 0;
        for (int i = 1; i < CALLS; i++) {
            int done = i % 2 == 1 ? x.add(i) : x.remove(i - 1);
            Check.same("the call " + i, done, 1);
            due += i % 2 == 1 ? 1 : 2;
        }
        Check.same("upkeep", x.about(2), due);
    }

    private static void undoneAtTheEnd() {
        Check.sentence("an object is used for at most 512 calls: it takes back in the last 14");
        TripleWays x = new TripleWays();
        for (int i = 0; i < CALLS - 14; i++) {
            x.setWeight(i % 100);
        }
        for (int i = 13; i >= 0; i--) {
            Check.same("undo", x.undo(), i);
        }
    }

    private static void textsWritten() {
        Check.sentence("an object is used for at most 512 calls: it writes five texts of 100 characters");
        TripleWays x = new TripleWays();
        for (int i = 0; i < CALLS; i++) {
            if (i % 101 == 100) {
                Check.same("clearText", x.clearText(), 100);
            } else {
                Check.same("append", x.append('0' + i % 10), i % 101 + 1);
            }
        }
    }

    private static void dearestAnswers() {
        Check.sentence("an object is used for at most 512 calls: the dearest question in 471 of them");
        TripleWays x = Check.upTo(40);
        for (int i = 40; i < CALLS - 1; i++) {
            x.ask(1330);
        }
        Check.same("the costs for answers", x.about(4), 471 * 40);
    }

    private static void builtAndDropped() {
        Check.sentence("an object is used for at most 512 calls: the dearest order in 235 of them");
        TripleWays x = Check.upTo(40);
        for (int i = 0; i < 235; i++) {
            Check.same("build", x.build(5), 240);
            Check.same("drop", x.drop(5), 1);
        }
        Check.same("the costs for building", x.about(3), 235 * 240);
    }

    private static void shareNothing() {
        Check.sentence("two objects share nothing");
        TripleWays x = new TripleWays();
        TripleWays y = new TripleWays();
        x.add(5);
        x.ask(5);
        x.append('5');
        x.setWeight(9);
        x.build(3);
        x.save(0);
        Check.alike("the other one", Check.seen(y), Check.seen(new TripleWays()));
        Check.same("its text", y.clearText(), 0);
        Check.state("its slot", () -> y.restore(0));
        Check.state("its states", y::undo);
        Check.same("the first one", x.restore(0), 1);
    }
}
