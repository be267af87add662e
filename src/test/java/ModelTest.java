/** All promises: long runs of calls, each answer compared with the model's. The same runs each time. */
public final class ModelTest {

    private static final int RUNS = 300;
    /** An object is used for at most 512 calls; the last step may need some twenty. */
    private static final int CALLS = 490;

    private final TripleWays real = new TripleWays();
    private final Model model = new Model();
    private final int digits;
    private final boolean wild;
    private long state;
    private int calls;

    private ModelTest(int run) {
        state = 7919L * run + 17;
        digits = 2 + run % 9;
        wild = run % 5 == 0;
    }

    public static void main(String[] args) {
        for (int run = 0; run < RUNS; run++) {
            ModelTest test = new ModelTest(run);
            test.fill(run % 3 == 1 ? 38 : run % 3 == 2 ? 9 : 0);
            while (test.calls < CALLS) {
                test.step("run " + run + ", call " + test.calls + ": ");
            }
        }
        Check.end();
    }

    private void fill(int many) {
        for (int i = 0; i < many; i++) {
            int triple = aTriple();
            same("fill", () -> real.add(triple), () -> model.add(triple));
        }
    }

    private int below(int bound) {
        state = state * 6364136223846793005L + 1442695040888963407L;
        return (int) ((state >>> 33) % bound);
    }

    /** Mostly what is in its range, now and then what is not. */
    private int range(int low, int high) {
        if (below(wild ? 4 : 40) == 0) {
            int[] odd = {low - 1, high + 1, low, high, Integer.MIN_VALUE, Integer.MAX_VALUE, high + 2, -2};
            return odd[below(odd.length)];
        }
        return low + below(high - low + 1);
    }

    private int digit() {
        return Math.min(9, below(digits));
    }

    private int aTriple() {
        return below(20) == 0 ? range(0, 999) : 100 * digit() + 10 * digit() + digit();
    }

    private int aQuestion() {
        if (below(20) == 0) {
            return range(0, 1330);
        }
        int number = 0;
        for (int i = 0; i < 3; i++) {
            number = 11 * number + (below(2) == 0 ? 10 : digit());
        }
        return number;
    }

    private long aScript(int n) {
        long script = 0;
        for (int i = 0; i < n; i++) {
            script = 100000 * script + aGroup();
        }
        return below(30) == 0 ? script * 100 - below(2) * 100000 : script;
    }

    private int aGroup() {
        int head = below(9) + 1;
        switch (below(12) == 0 ? 0 : head) {
            case 1: case 2: return head * 10000 + Math.floorMod(aTriple(), 1000);
            case 3: case 8: return head * 10000 + Math.floorMod(aQuestion(), 1340);
            case 4: case 5: return head * 10000 + below(7) * 1000;
            case 6: return 60000;
            case 7: return 70000 + below(45);
            case 9: return 90000 + below(1000);
            default: return below(100000);
        }
    }

    private void step(String where) {
        int method = below(46);
        if (method < 28) {
            look(where, method);
        } else {
            act(where, method - 28);
        }
    }

    private void look(String where, int method) {
        int a = aQuestion();
        int b = aQuestion();
        int c = range(0, 2);
        int d = range(0, 2);
        int q = range(0, 5);
        int orNone = below(3) == 0 ? -1 : q;
        int place = range(0, 41);
        int set = range(0, 63);
        int n = range(1, 3);
        long script = aScript(n < 1 || n > 3 ? 2 : n);
        long seed = state * 31 + place;
        int turns = range(1, 99);
        int what = range(0, 7);
        switch (method) {
            case 0: same(where + "errorPosition(true)", () -> real.errorPosition(true), () -> model.errorPosition(true)); break;
            case 1: same(where + "errorPosition(false)", () -> real.errorPosition(false), () -> model.errorPosition(false)); break;
            case 2: same(where + "question", real::question, model::question); break;
            case 3: same(where + "about " + what, () -> real.about(what), () -> model.about(what)); break;
            case 4: case 5: same(where + "triple " + orNone + " " + place, () -> real.triple(orNone, place), () -> model.triple(orNone, place)); break;
            case 6: same(where + "remembered " + place, () -> real.remembered(place), () -> model.remembered(place)); break;
            case 7: same(where + "weight", real::weight, model::weight); break;
            case 8: same(where + "count " + a, () -> real.count(a), () -> model.count(a)); break;
            case 9: case 10: same(where + "cost " + a + " " + orNone, () -> real.cost(a, orNone), () -> model.cost(a, orNone)); break;
            case 11: same(where + "by " + a, () -> real.by(a), () -> model.by(a)); break;
            case 12: same(where + "reach " + a + " " + q, () -> real.reach(a, q), () -> model.reach(a, q)); break;
            case 13: case 14: same(where + "answer " + a + " " + place % 7, () -> real.answer(a, place % 7), () -> model.answer(a, place % 7)); break;
            case 15: same(where + "pairs", () -> real.pairs(a, b, c, d), () -> model.pairs(a, b, c, d)); break;
            case 16: same(where + "joinCost merged", () -> real.joinCost(a, b, c, d, true), () -> model.joinCost(a, b, c, d, true)); break;
            case 17: same(where + "joinCost looking up", () -> real.joinCost(a, b, c, d, false), () -> model.joinCost(a, b, c, d, false)); break;
            case 18: case 19: same(where + "value " + q, () -> real.value(q), () -> model.value(q)); break;
            case 20: same(where + "advised", real::advised, model::advised); break;
            case 21: same(where + "spare", real::spare, model::spare); break;
            case 22: same(where + "needed", real::needed, model::needed); break;
            case 23: same(where + "ifKept " + set, () -> real.ifKept(set), () -> model.ifKept(set)); break;
            case 24: same(where + "bestSet", real::bestSet, model::bestSet); break;
            case 25: case 26: same(where + "runScript " + n + " " + script, () -> real.runScript(n, script), () -> model.runScript(n, script)); break;
            default: same(where + "simulate " + seed + " " + turns, () -> real.simulate(seed, turns), () -> model.simulate(seed, turns)); break;
        }
    }

    private void act(String where, int method) {
        int triple = aTriple();
        int question = aQuestion();
        int q = range(0, 5);
        int v = below(2) == 0 ? range(0, 99) : below(5);
        int slot = range(0, 1);
        switch (method) {
            case 0: case 1: case 2: same(where + "add " + triple, () -> real.add(triple), () -> model.add(triple)); break;
            case 3: same(where + "remove " + triple, () -> real.remove(triple), () -> model.remove(triple)); break;
            case 4: case 5: case 6: case 7: same(where + "ask " + question, () -> real.ask(question), () -> model.ask(question)); break;
            case 8: same(where + "build " + q, () -> real.build(q), () -> model.build(q)); break;
            case 9: same(where + "drop " + q, () -> real.drop(q), () -> model.drop(q)); break;
            case 10: same(where + "tidy", real::tidy, model::tidy); break;
            case 11: same(where + "setWeight " + v, () -> real.setWeight(v), () -> model.setWeight(v)); break;
            case 12: same(where + "undo", real::undo, model::undo); break;
            case 13: same(where + "addAll", real::addAll, model::addAll); break;
            case 14: same(where + "save " + slot, () -> real.save(slot), () -> model.save(slot)); break;
            case 15: if (below(3) == 0) {
                same(where + "restore " + slot, () -> real.restore(slot), () -> model.restore(slot));
            } break;
            default: write(where); break;
        }
    }

    private void write(String where) {
        if (below(2) == 0) {
            same(where + "clearText", real::clearText, model::clearText);
        }
        String kind = below(2) == 0 ? "d*d" : "ddd,ddd,ddd,ddd";
        int length = below(3) == 0 ? below(kind.length() + 1) : below(6) == 0 ? 3 : kind.length();
        for (int i = 0; i < length; i++) {
            char form = kind.charAt(i);
            int sign = below(30) == 0 ? range(0, 255) : form == 'd' ? '0' + digit() : form;
            same(where + "append " + sign, () -> real.append(sign), () -> model.append(sign));
        }
    }

    private void same(String what, Check.Call real, Check.Call model) {
        calls++;
        long due;
        try {
            due = model.run();
        } catch (IllegalArgumentException e) {
            Check.argument(what, real);
            return;
        } catch (IllegalStateException e) {
            Check.state(what, real);
            return;
        } catch (IndexOutOfBoundsException e) {
            Check.index(what, real);
            return;
        }
        Check.same(what, real.run(), due);
    }
}
