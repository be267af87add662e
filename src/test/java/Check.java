/** What the tests share: they count the answers that are not due, and end with exit code 1 if there was one. */
final class Check {

    interface Call {
        long run();
    }

    private static int wrong = 0;

    private Check() {
    }

    static void same(String what, long got, long due) {
        if (got != due) {
            wrong++;
            System.out.println(what + " answered " + got + ", due is " + due);
        }
    }

    static void argument(String what, Call call) {
        thrown(what, call, IllegalArgumentException.class);
    }

    static void state(String what, Call call) {
        thrown(what, call, IllegalStateException.class);
    }

    static void index(String what, Call call) {
        thrown(what, call, IndexOutOfBoundsException.class);
    }

    private static void thrown(String what, Call call, Class<?> due) {
        try {
            long got = call.run();
            wrong++;
            System.out.println(what + " answered " + got + ", due is " + due.getSimpleName());
        } catch (RuntimeException e) {
            if (e.getClass() != due) {
                wrong++;
                System.out.println(what + " threw " + e + ", due is " + due.getSimpleName());
            }
        }
    }

    static void write(TripleWays x, String text) {
        x.clearText();
        for (int i = 0; i < text.length(); i++) {
            x.append(text.charAt(i));
        }
    }

    /** A store with these triples, added one by one. */
    static TripleWays with(int... triples) {
        TripleWays x = new TripleWays();
        for (int triple : triples) {
            x.add(triple);
        }
        return x;
    }

    /** The question of a text of three characters. */
    static int ask(String text) {
        int number = 0;
        for (int i = 0; i < 3; i++) {
            char sign = text.charAt(i);
            number = 11 * number + (sign == '*' ? 10 : sign - '0');
        }
        return number;
    }

    /** What can be seen of a state, in one text. */
    static String seen(TripleWays x) {
        StringBuilder all = new StringBuilder();
        for (int what = 0; what <= 7; what++) {
            all.append(x.about(what)).append(' ');
        }
        all.append("weight ").append(x.weight()).append(" triples");
        for (int i = 0; i < 40; i++) {
            all.append(' ').append(x.triple(TripleWays.NONE, i));
        }
        all.append(" remembered");
        for (int i = 0; i < 12; i++) {
            all.append(' ').append(x.remembered(i));
        }
        return all.toString();
    }

    static void alike(String what, String got, String due) {
        if (!got.equals(due)) {
            wrong++;
            System.out.println(what + " is " + got + ", due is " + due);
        }
    }

    static void end() {
        if (wrong != 0) {
            System.out.println(wrong + " answers are not as due");
            System.exit(1);
        }
    }
}
