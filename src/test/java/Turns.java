/** Simulated turns, done on an object itself, and seeds whose turns are known before. */
final class Turns {

    private static final long FACTOR = 6364136223846793005L;
    private static final long SUMMAND = 1442695040888963407L;

    private Turns() {
    }

    private static long next(long x) {
        return x * FACTOR + SUMMAND;
    }

    private static int told(long x) {
        return (int) (x >>> 33);
    }

    /** Does the turns, and answers as simulate should have done before. */
    static int done(TripleWays x, long seed, int m) {
        int counted = counted(x, seed, m);
        return 1000 * Integer.bitCount(x.about(1)) + (counted > 999 ? 999 : counted);
    }

    /** Does the turns, and answers what was counted for answers in them. */
    static int counted(TripleWays x, long seed, int m) {
        int before = x.about(4);
        long state = seed;
        for (int turn = 0; turn < m; turn++) {
            state = next(state);
            turn(x, told(state));
        }
        return x.about(4) - before;
    }

    private static void turn(TripleWays x, int r) {
        int t = 100 * (r / 16 % 4) + 10 * (r / 64 % 4) + r / 256 % 4;
        switch (r % 16) {
            case 0: case 1: case 2: case 3: case 4:
                try {
                    x.add(t);
                } catch (IllegalStateException e) {
                    // It is left out.
                }
                break;
            case 5:
                x.remove(t);
                break;
            case 14: case 15:
                x.tidy();
                break;
            default:
                x.ask(121 * digit(r / 16 % 16) + 11 * digit(r / 256 % 16) + digit(r / 4096 % 16));
                break;
        }
    }

    private static int digit(int value) {
        return value > 10 ? 10 : value;
    }

    /** The seed from which the first r is this one. */
    static long seed(int r) {
        return before((long) r << 33);
    }

    /** A seed from which the first r is this one, and the second one ends with these 16 bits. */
    static long seed(int r, int second) {
        long x = (long) r << 33;
        for (int tried = 0; tried < 100000000; tried++) {
            if ((told(next(x)) & 65535) == second) {
                return before(x);
            }
            x++;
        }
        throw new AssertionError("no such seed");
    }

    private static long before(long x) {
        long inverse = FACTOR;
        for (int i = 0; i < 6; i++) {
            inverse *= 2 - FACTOR * inverse;
        }
        return (x - SUMMAND) * inverse;
    }

    /** The end of an r by which the question a, b, c is asked; what is above 9 is free. */
    static int asking(int a, int b, int c) {
        return 6 + 16 * a + 256 * b + 4096 * c;
    }
}
