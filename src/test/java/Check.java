/** What the tests share: they count the answers that are not due, and end with exit code 1 if there was one. */
final class Check {

    interface Call {
        long run();
    }

    private static int wrong = 0;
    private static String sentence = "";

    private Check() {
    }

    /** What fails from here on breaks this sentence of the document. */
    static void sentence(String words) {
        sentence = words;
    }

    private static void fail(String told) {
        wrong++;
        System.out.println(sentence.isEmpty() ? told : "[" + sentence + "] " + told);
    }

    static void same(String what, long got, long due) {
        if (got != due) {
            fail(what + " answered " + got + ", due is " + due);
        }
    }

    static void argument(String what, Call call) {
        thrown(what, call, IllegalArgumentException.class);
    }

    static void state(String what, Call call) {
        thrown(what, call, IllegalStateException.class);
    }

    static void index(String what, Call call) {
        thrown(what, call, IndexOutOfBoundsException.class);
    }

    private static void thrown(String what, Call call, Class<?> due) {
        try {
            long got = call.run();
            fail(what + " answered " + got + ", due is " + due.getSimpleName());
        } catch (RuntimeException e) {
            if (e.getClass() != due) {
                fail(what + " threw " + e + ", due is " + due.getSimpleName());
            }
        }
    }

    static void write(TripleWays x, String text) {
        x.clearText();
        for (int i = 0; i < text.length(); i++) {
            x.append(text.charAt(i));
        }
    }

    /** A store with these triples, added one by one. */
    static TripleWays with(int... triples) {
        TripleWays x = new TripleWays();
        for (int triple : triples) {
            x.add(triple);
        }
        return x;
    }

    /** The question of a text of three characters. */
    static int ask(String text) {
        int number = 0;
        for (int i = 0; i < 3; i++) {
            char sign = text.charAt(i);
            number = 11 * number + (sign == '*' ? 10 : sign - '0');
        }
        return number;
    }

    /** A store with so many triples, 0 and on: the component 0 of each is 0. */
    static TripleWays upTo(int many) {
        TripleWays x = new TripleWays();
        for (int triple = 0; triple < many; triple++) {
            x.add(triple);
        }
        return x;
    }

    /** A store with 000, 111 and on to 999: a digit bound in any component leaves one of the ten. */
    static TripleWays diagonal() {
        return with(0, 111, 222, 333, 444, 555, 666, 777, 888, 999);
    }

    static void askAll(TripleWays x, String... asked) {
        for (String question : asked) {
            x.ask(ask(question));
        }
    }

    /** The triples by the order q, or NONE, and that there are no more. */
    static void places(TripleWays x, int q, int... due) {
        for (int i = 0; i < due.length; i++) {
            same("triple(" + q + ", " + i + ")", x.triple(q, i), due[i]);
        }
        same("triple(" + q + ", " + due.length + ")", x.triple(q, due.length), -1);
    }

    /** The answers of a question, and that there are no more. */
    static void answers(TripleWays x, String asked, int... due) {
        same("count " + asked, x.count(ask(asked)), due.length);
        for (int i = 0; i < due.length; i++) {
            same("answer " + asked + " " + i, x.answer(ask(asked), i), due[i]);
        }
        same("answer " + asked + " " + due.length, x.answer(ask(asked), due.length), -1);
    }

    /** What can be seen of a state, in one text. An object has 512 calls: of empty places only the first is asked for. */
    static String seen(TripleWays x) {
        StringBuilder all = new StringBuilder();
        for (int what = 0; what <= 7; what++) {
            all.append(x.about(what)).append(' ');
        }
        all.append("weight ").append(x.weight()).append(" triples");
        int triples = Math.min(40, x.about(0));
        for (int i = 0; i <= triples; i++) {
            all.append(' ').append(x.triple(TripleWays.NONE, i));
        }
        all.append(" remembered");
        int questions = Math.min(12, x.about(6));
        for (int i = 0; i <= questions; i++) {
            all.append(' ').append(x.remembered(i));
        }
        return all.toString();
    }

    static void alike(String what, String got, String due) {
        if (!got.equals(due)) {
            fail(what + " is " + got + ", due is " + due);
        }
    }

    static void end() {
        if (wrong != 0) {
            System.out.println(wrong + " answers are not as due");
            System.exit(1);
        }
    }
}
