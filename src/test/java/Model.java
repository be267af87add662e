import java.util.ArrayList;
import java.util.Comparator;
import java.util.List;

/** The document once more, in its plainest words and with the Java library: the tests compare the class with it. */
final class Model {

    private static final String[] ORDERS = {"012", "021", "102", "120", "201", "210"};

    /** All that actions change. */
    static final class State {
        List<String> triples = new ArrayList<>();
        List<Integer> kept = new ArrayList<>(List.of(0));
        List<String> remembered = new ArrayList<>();
        int upkeep;
        int building;
        int answers;
        int asked;
        int weight = 4;

        State copy() {
            State other = new State();
            other.triples = new ArrayList<>(triples);
            other.kept = new ArrayList<>(kept);
            other.remembered = new ArrayList<>(remembered);
            other.upkeep = upkeep;
            other.building = building;
            other.answers = answers;
            other.asked = asked;
            other.weight = weight;
            return other;
        }
    }

    State now = new State();
    private final List<State> before = new ArrayList<>();
    private final State[] slots = new State[2];
    private String text = "";

    // ---- what the terms say

    static String tripleText(int triple) {
        return String.format("%03d", triple);
    }

    static String questionText(int question) {
        StringBuilder signs = new StringBuilder();
        for (int digit : new int[] {question / 121, question / 11 % 11, question % 11}) {
            signs.append(digit == 10 ? "*" : Integer.toString(digit));
        }
        return signs.toString();
    }

    static int look(int n) {
        int k = 0;
        while (Math.pow(2, k) <= n) {
            k++;
        }
        return k;
    }

    static boolean fits(String triple, String question) {
        return triple.matches(question.replace('*', '.'));
    }

    static int bound(String question) {
        return question.replace("*", "").length();
    }

    static int reached(String question, int q) {
        for (int i = 0; i < 3; i++) {
            if (question.charAt(ORDERS[q].charAt(i) - '0') == '*') {
                return i;
            }
        }
        return 3;
    }

    static List<String> fitting(State s, String question) {
        List<String> fitting = new ArrayList<>(s.triples);
        fitting.removeIf(triple -> !fits(triple, question));
        return fitting;
    }

    static List<String> sorted(List<String> triples, int q) {
        List<String> sorted = new ArrayList<>(triples);
        if (q >= 0) {
            Comparator<String> comparator = Comparator.comparing(t -> t.charAt(ORDERS[q].charAt(0) - '0'));
            comparator = comparator.thenComparing(t -> t.charAt(ORDERS[q].charAt(1) - '0'));
            comparator = comparator.thenComparing(t -> t.charAt(ORDERS[q].charAt(2) - '0'));
            sorted.sort(comparator);
        }
        return sorted;
    }

    static int costBy(State s, String question, int q) {
        int reached = reached(question, q);
        if (reached == 0) {
            return s.triples.size();
        }
        int found = 0;
        for (String triple : s.triples) {
            boolean all = true;
            for (int i = 0; i < reached; i++) {
                int component = ORDERS[q].charAt(i) - '0';
                all &= triple.charAt(component) == question.charAt(component);
            }
            found += all ? 1 : 0;
        }
        return look(s.triples.size()) + found;
    }

    static int by(State s, String question) {
        int best = -1;
        for (int q = 0; q < 6; q++) {
            if (s.kept.contains(q) && (best < 0 || costBy(s, question, q) < costBy(s, question, best))) {
                best = q;
            }
        }
        return best >= 0 && costBy(s, question, best) < s.triples.size() ? best : -1;
    }

    static int cost(State s, String question) {
        int by = by(s, question);
        return by < 0 ? s.triples.size() : costBy(s, question, by);
    }

    static int sum(State s, List<Integer> kept) {
        State other = s.copy();
        other.kept = kept;
        int sum = 0;
        for (String question : s.remembered) {
            sum += cost(other, question);
        }
        return sum;
    }

    static List<Integer> members(int set) {
        List<Integer> members = new ArrayList<>();
        for (int q = 0; q < 6; q++) {
            if ((set >> q) % 2 == 1) {
                members.add(q);
            }
        }
        return members;
    }

    static int unit(State s) {
        return s.weight * (look(s.triples.size()) + 1);
    }

    static int value(State s, int q) {
        List<Integer> changed = new ArrayList<>(s.kept);
        if (s.kept.contains(q)) {
            changed.remove(Integer.valueOf(q));
            return sum(s, changed) - sum(s, s.kept) - unit(s);
        }
        changed.add(q);
        return sum(s, s.kept) - sum(s, changed) - unit(s);
    }

    static int advised(State s) {
        int best = -1;
        for (int q = 5; q >= 0; q--) {
            if (!s.kept.contains(q) && value(s, q) > 0 && (best < 0 || value(s, q) >= value(s, best))) {
                best = q;
            }
        }
        return best;
    }

    static int spare(State s) {
        int best = -1;
        for (int q = 5; q >= 0; q--) {
            if (s.kept.contains(q) && value(s, q) < 0 && (best < 0 || value(s, q) <= value(s, best))) {
                best = q;
            }
        }
        return best;
    }

    static int needed(State s) {
        for (int many = 0; many <= 6; many++) {
            for (int set = 0; set < 64; set++) {
                List<Integer> members = members(set);
                boolean all = members.size() == many;
                for (String question : s.remembered) {
                    all &= members.stream().anyMatch(q -> reached(question, q) == bound(question));
                }
                if (all) {
                    return set;
                }
            }
        }
        throw new AssertionError("all orders are enough");
    }

    static int bestSet(State s) {
        int best = -1;
        int least = Integer.MAX_VALUE;
        for (int set = 0; set < 64; set++) {
            int cost = sum(s, members(set)) + members(set).size() * unit(s);
            if (cost < least) {
                least = cost;
                best = set;
            }
        }
        return best;
    }

    // ---- changes of a state

    static boolean full(State s, String triple) {
        return s.triples.size() == 40 && !s.triples.contains(triple);
    }

    static int add(State s, String triple) {
        if (s.triples.contains(triple)) {
            return 0;
        }
        s.upkeep += s.kept.size() * (look(s.triples.size()) + 1);
        s.triples.add(triple);
        return 1;
    }

    static int remove(State s, String triple) {
        if (!s.triples.contains(triple)) {
            return 0;
        }
        s.upkeep += s.kept.size() * (look(s.triples.size()) + 1);
        s.triples.remove(triple);
        return 1;
    }

    static int ask(State s, String question) {
        s.answers += cost(s, question);
        s.asked++;
        s.remembered.add(0, question);
        if (s.remembered.size() > 12) {
            s.remembered.remove(12);
        }
        return fitting(s, question).size();
    }

    static int build(State s, int q) {
        int cost = s.triples.size() * look(s.triples.size());
        s.building += cost;
        s.kept.add(q);
        return cost;
    }

    static int drop(State s, int q) {
        s.kept.remove(Integer.valueOf(q));
        return s.kept.size();
    }

    static int tidy(State s) {
        int advised = advised(s);
        int spare = spare(s);
        if (advised >= 0) {
            build(s, advised);
            return 10 + advised;
        }
        if (spare >= 0) {
            drop(s, spare);
        }
        return spare;
    }

    private static boolean command(State s, String group) {
        int rest = Integer.parseInt(group.substring(1));
        int q = rest / 1000;
        if (group.matches("10...")) {
            if (full(s, group.substring(2))) {
                return false;
            }
            add(s, group.substring(2));
            return true;
        } else if (group.matches("20...")) {
            remove(s, group.substring(2));
            return true;
        } else if (group.matches("3....") && rest <= 1330) {
            ask(s, questionText(rest));
            return true;
        } else if (group.matches("4[0-5]000") && !s.kept.contains(q)) {
            build(s, q);
            return true;
        } else if (group.matches("5[0-5]000") && s.kept.contains(q)) {
            drop(s, q);
            return true;
        } else if (group.equals("60000")) {
            return tidy(s) != -1;
        } else if (group.matches("700..")) {
            return s.triples.size() >= rest;
        } else if (group.matches("8....") && rest <= 1330) {
            return cost(s, questionText(rest)) < s.triples.size();
        } else if (group.matches("90...")) {
            return s.answers <= rest;
        }
        return false;
    }

    // ---- the face

    private static void argument(boolean good) {
        if (!good) {
            throw new IllegalArgumentException();
        }
    }

    private static void index(boolean good) {
        if (!good) {
            throw new IndexOutOfBoundsException();
        }
    }

    private static void state(boolean good) {
        if (!good) {
            throw new IllegalStateException();
        }
    }

    private static String question(int question) {
        argument(question >= 0 && question <= 1330);
        return questionText(question);
    }

    private static int at(List<String> triples, int i) {
        return i < triples.size() ? Integer.parseInt(triples.get(i)) : -1;
    }

    private State act() {
        before.add(now.copy());
        if (before.size() > 14) {
            before.remove(0);
        }
        return now;
    }

    int append(int c) {
        argument(c >= 0 && c <= 255);
        state(text.length() < 100);
        text += (char) c;
        return text.length();
    }

    int clearText() {
        int length = text.length();
        text = "";
        return length;
    }

    int errorPosition(boolean question) {
        String whole = question ? "[0-9*]{3}" : "[0-9]{3}(,[0-9]{3})*";
        if (text.matches(whole)) {
            return -1;
        }
        for (int length = 1; length <= text.length(); length++) {
            if (!goesOn(text.substring(0, length), question)) {
                return length - 1;
            }
        }
        return text.length();
    }

    private static boolean goesOn(String start, boolean question) {
        return start.matches(question ? "[0-9*]{0,3}" : "([0-9]{3},)*([0-9]{0,3})");
    }

    int question() {
        state(errorPosition(true) == -1);
        int number = 0;
        for (char sign : text.toCharArray()) {
            number = 11 * number + (sign == '*' ? 10 : sign - '0');
        }
        return number;
    }

    int about(int what) {
        argument(what >= 0 && what <= 7);
        int kept = now.kept.stream().mapToInt(q -> 1 << q).sum();
        return new int[] {now.triples.size(), kept, now.upkeep, now.building, now.answers, now.asked,
            now.remembered.size(), look(now.triples.size())}[what];
    }

    int triple(int q, int i) {
        index(q >= -1 && q <= 5);
        argument(i >= 0);
        return at(sorted(now.triples, q), i);
    }

    int remembered(int i) {
        argument(i >= 0);
        if (i >= now.remembered.size()) {
            return -1;
        }
        int number = 0;
        for (char sign : now.remembered.get(i).toCharArray()) {
            number = 11 * number + (sign == '*' ? 10 : sign - '0');
        }
        return number;
    }

    int weight() {
        return now.weight;
    }

    int count(int question) {
        return fitting(now, question(question)).size();
    }

    int cost(int question, int q) {
        String asked = question(question);
        index(q >= -1 && q <= 5);
        return q == -1 ? cost(now, asked) : costBy(now, asked, q);
    }

    int by(int question) {
        return by(now, question(question));
    }

    int reach(int question, int q) {
        String asked = question(question);
        index(q >= 0 && q <= 5);
        return reached(asked, q);
    }

    int answer(int question, int i) {
        String asked = question(question);
        argument(i >= 0);
        return at(sorted(fitting(now, asked), by(now, asked)), i);
    }

    int pairs(int first, int second, int a, int b) {
        String one = question(first);
        String other = question(second);
        argument(a >= 0 && a <= 2 && b >= 0 && b <= 2);
        int pairs = 0;
        for (String x : fitting(now, one)) {
            for (String y : fitting(now, other)) {
                pairs += x.charAt(a) == y.charAt(b) ? 1 : 0;
            }
        }
        return pairs;
    }

    int joinCost(int first, int second, int a, int b, boolean merged) {
        String one = question(first);
        String other = question(second);
        argument(a >= 0 && a <= 2 && b >= 0 && b <= 2);
        if (merged) {
            int left = merging(one, a);
            int right = merging(other, b);
            return left < 0 || right < 0 ? -1 : left + right;
        }
        int sum = cost(now, one);
        for (String x : fitting(now, one)) {
            char present = other.charAt(b);
            if (present == '*' || present == x.charAt(a)) {
                sum += cost(now, other.substring(0, b) + x.charAt(a) + other.substring(b + 1));
            }
        }
        return sum;
    }

    private int merging(String question, int component) {
        int least = -1;
        for (int q : now.kept) {
            int reached = reached(question, q);
            boolean sorted = question.charAt(component) == '*' && reached == bound(question)
                && ORDERS[q].charAt(reached) - '0' == component;
            if (sorted && (least < 0 || costBy(now, question, q) < least)) {
                least = costBy(now, question, q);
            }
        }
        return least;
    }

    int add(int triple) {
        argument(triple >= 0 && triple <= 999);
        state(!full(now, tripleText(triple)));
        return add(act(), tripleText(triple));
    }

    int addAll() {
        state(errorPosition(false) == -1);
        act();
        int added = 0;
        for (String triple : text.split(",")) {
            if (!full(now, triple)) {
                added += add(now, triple);
            }
        }
        return added;
    }

    int remove(int triple) {
        argument(triple >= 0 && triple <= 999);
        return remove(act(), tripleText(triple));
    }

    int ask(int question) {
        String asked = question(question);
        return ask(act(), asked);
    }

    int build(int q) {
        index(q >= 0 && q <= 5);
        state(!now.kept.contains(q));
        return build(act(), q);
    }

    int drop(int q) {
        index(q >= 0 && q <= 5);
        state(now.kept.contains(q));
        return drop(act(), q);
    }

    int tidy() {
        return tidy(act());
    }

    int setWeight(int v) {
        argument(v >= 0 && v <= 99);
        int previous = act().weight;
        now.weight = v;
        return previous;
    }

    int undo() {
        state(!before.isEmpty());
        now = before.remove(before.size() - 1);
        return before.size();
    }

    int value(int q) {
        index(q >= 0 && q <= 5);
        return value(now, q);
    }

    int advised() {
        return advised(now);
    }

    int spare() {
        return spare(now);
    }

    int needed() {
        return needed(now);
    }

    int ifKept(int set) {
        argument(set >= 0 && set <= 63);
        return sum(now, members(set));
    }

    int bestSet() {
        return bestSet(now);
    }

    int runScript(int n, long script) {
        argument(n >= 1 && n <= 3 && script >= 0);
        String digits = Long.toString(script);
        argument(digits.length() <= 5 * n);
        digits = "0".repeat(5 * n - digits.length()) + digits;
        State copy = now.copy();
        for (int i = 0; i < n; i++) {
            if (!command(copy, digits.substring(5 * i, 5 * i + 5))) {
                return i;
            }
        }
        return -1;
    }

    int simulate(long seed, int m) {
        argument(m >= 1 && m <= 99);
        State copy = now.copy();
        copy.answers = 0;
        long x = seed;
        for (int turn = 0; turn < m; turn++) {
            x = x * 6364136223846793005L + 1442695040888963407L;
            int r = (int) (x >>> 33);
            String triple = tripleText(100 * (r / 16 % 4) + 10 * (r / 64 % 4) + r / 256 % 4);
            int kind = r % 16;
            if (kind <= 4) {
                if (!full(copy, triple)) {
                    add(copy, triple);
                }
            } else if (kind == 5) {
                remove(copy, triple);
            } else if (kind <= 13) {
                ask(copy, sign(r / 16 % 16) + sign(r / 256 % 16) + sign(r / 4096 % 16));
            } else {
                tidy(copy);
            }
        }
        return 1000 * copy.kept.size() + Math.min(copy.answers, 999);
    }

    private static String sign(int digit) {
        return digit >= 10 ? "*" : Integer.toString(digit);
    }

    int save(int slot) {
        index(slot == 0 || slot == 1);
        slots[slot] = now.copy();
        return now.triples.size();
    }

    int restore(int slot) {
        index(slot == 0 || slot == 1);
        state(slots[slot] != null);
        now = slots[slot].copy();
        before.clear();
        return now.triples.size();
    }
}
