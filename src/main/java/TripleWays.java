/**
 * Triples of digits, kept in those of six orders that questions need; see README.md.
 *
 * Every index is tested before it is used, also where the class's own rules keep it in range:
 * the machine itself never throws in here.
 */
public final class TripleWays {

    public static final int NONE = -1;

    private static final int COMPONENTS = 3;
    private static final int ORDERS = 6;
    private static final int SETS = 64;
    private static final int FREE = 10;
    private static final int LAST_TRIPLE = 999;
    private static final int LAST_QUESTION = 1330;
    private static final int LAST_WEIGHT = 99;
    private static final int LAST_SIGN = 255;
    private static final int MOST_SIGNS = 100;
    private static final int MOST_TRIPLES = 40;
    private static final int MOST_QUESTIONS = 12;
    private static final int MOST_STATES = 14;
    private static final int MOST_TURNS = 99;
    private static final int MOST_COMMANDS = 3;
    private static final int GROUP = 100000;
    private static final int BUILT = 10;
    private static final int MOST_TOLD = 999;

    private final Text text = new Text();
    private final State now = new State();
    private final State copy = new State();
    private final History history = new History();
    private final Advice advice = new Advice();
    private final Slot firstSlot = new Slot();
    private final Slot secondSlot = new Slot();

    public TripleWays() {
    }

    // ---- text

    public int append(int c) throws IllegalArgumentException, IllegalStateException {
        if (c < 0 || c > LAST_SIGN) {
            throw new IllegalArgumentException("a character code is 0 to 255");
        }
        if (text.isFull()) {
            throw new IllegalStateException("the text has 100 characters");
        }
        return text.put(c);
    }

    public int clearText() {
        return text.empty();
    }

    public int errorPosition(boolean question) {
        return question ? text.questionError() : text.triplesError();
    }

    public int question() throws IllegalStateException {
        if (text.questionError() != NONE) {
            throw new IllegalStateException("the text is not a question");
        }
        return text.asQuestion();
    }

    // ---- what there is

    public int about(int what) throws IllegalArgumentException {
        switch (what) {
            case 0: return now.size;
            case 1: return now.kept;
            case 2: return now.upkeepCosts;
            case 3: return now.buildingCosts;
            case 4: return now.answerCosts;
            case 5: return now.asked;
            case 6: return now.questionCount;
            case 7: return now.look();
            default: throw new IllegalArgumentException("what is 0 to 7");
        }
    }

    public int triple(int q, int i) throws IndexOutOfBoundsException, IllegalArgumentException {
        needOrderOrNone(q);
        needPlace(i);
        return now.answerAt(LAST_QUESTION, q, i);
    }

    public int remembered(int i) throws IllegalArgumentException {
        needPlace(i);
        return i < now.questionCount ? now.questionAt(now.questionCount - 1 - i) : NONE;
    }

    public int weight() {
        return now.weight;
    }

    // ---- questions; these methods change nothing

    public int count(int question) throws IllegalArgumentException {
        needQuestion(question);
        return now.countAnswers(question);
    }

    public int cost(int question, int q) throws IllegalArgumentException, IndexOutOfBoundsException {
        needQuestion(question);
        needOrderOrNone(q);
        return q == NONE ? now.costNow(question) : now.costBy(question, q);
    }

    public int by(int question) throws IllegalArgumentException {
        needQuestion(question);
        return now.answeringOrder(question);
    }

    public int reach(int question, int q) throws IllegalArgumentException, IndexOutOfBoundsException {
        needQuestion(question);
        needOrder(q);
        return Numbers.reachOf(question, q);
    }

    public int answer(int question, int i) throws IllegalArgumentException {
        needQuestion(question);
        needPlace(i);
        return now.answerAt(question, now.answeringOrder(question), i);
    }

    public int pairs(int first, int second, int a, int b) throws IllegalArgumentException {
        needJoin(first, second, a, b);
        int sum = 0;
        for (int digit = 0; digit < FREE; digit++) {
            int answers = now.countAnswers(Numbers.boundTo(first, a, digit));
            sum += answers * now.countAnswers(Numbers.boundTo(second, b, digit));
        }
        return sum;
    }

    public int joinCost(int first, int second, int a, int b, boolean merged) throws IllegalArgumentException {
        needJoin(first, second, a, b);
        return merged ? mergingCost(first, second, a, b) : lookingUpCost(first, second, a, b);
    }

    // ---- actions

    public int add(int triple) throws IllegalArgumentException, IllegalStateException {
        needTriple(triple);
        if (!now.canPut(triple)) {
            throw new IllegalStateException("there are 40 triples");
        }
        history.push(now);
        return now.put(triple);
    }

    public int addAll() throws IllegalStateException {
        if (text.triplesError() != NONE) {
            throw new IllegalStateException("the text is not triples");
        }
        history.push(now);
        int added = 0;
        int told = text.countTriples();
        for (int k = 0; k < told; k++) {
            int triple = text.tripleAt(k);
            if (now.canPut(triple)) {
                added += now.put(triple);
            }
        }
        return added;
    }

    public int remove(int triple) throws IllegalArgumentException {
        needTriple(triple);
        history.push(now);
        return now.take(triple);
    }

    public int ask(int question) throws IllegalArgumentException {
        needQuestion(question);
        history.push(now);
        return now.noteQuestion(question);
    }

    public int build(int q) throws IndexOutOfBoundsException, IllegalStateException {
        needOrder(q);
        if (now.keeps(q)) {
            throw new IllegalStateException("the order is kept");
        }
        history.push(now);
        return now.keep(q);
    }

    public int drop(int q) throws IndexOutOfBoundsException, IllegalStateException {
        needOrder(q);
        if (!now.keeps(q)) {
            throw new IllegalStateException("the order is not kept");
        }
        history.push(now);
        return now.discard(q);
    }

    public int tidy() {
        history.push(now);
        return advice.follow(now);
    }

    public int setWeight(int v) throws IllegalArgumentException {
        if (v < 0 || v > LAST_WEIGHT) {
            throw new IllegalArgumentException("a weight is 0 to 99");
        }
        history.push(now);
        int previous = now.weight;
        now.weight = v;
        return previous;
    }

    public int undo() throws IllegalStateException {
        if (history.size == 0) {
            throw new IllegalStateException("no state is remembered");
        }
        return history.pop(now);
    }

    // ---- advice; these and all following methods up to the save slots change nothing

    public int value(int q) throws IndexOutOfBoundsException {
        needOrder(q);
        advice.learn(now);
        return advice.worth(q);
    }

    public int advised() {
        advice.learn(now);
        return advice.orderToBuild();
    }

    public int spare() {
        advice.learn(now);
        return advice.orderToDrop();
    }

    public int needed() {
        advice.learn(now);
        return advice.smallestCover();
    }

    public int ifKept(int set) throws IllegalArgumentException {
        if (set < 0 || set >= SETS) {
            throw new IllegalArgumentException("a set of orders is 0 to 63");
        }
        advice.learn(now);
        return advice.costWith(set);
    }

    public int bestSet() {
        advice.learn(now);
        return advice.cheapestSet();
    }

    // ---- scripts, simulations

    public int runScript(int n, long script) throws IllegalArgumentException {
        if (n < 1 || n > MOST_COMMANDS) {
            throw new IllegalArgumentException("a script has 1 to 3 commands");
        }
        if (script < 0 || script >= firstTooLong(n)) {
            throw new IllegalArgumentException("a command has five digits");
        }
        copy.become(now);
        for (int i = 0; i < n; i++) {
            if (!succeeds(copy, groupOf(n, script, i))) {
                return i;
            }
        }
        return NONE;
    }

    public int simulate(long seed, int m) throws IllegalArgumentException {
        if (m < 1 || m > MOST_TURNS) {
            throw new IllegalArgumentException("there are 1 to 99 turns");
        }
        copy.become(now);
        long x = seed;
        for (int turn = 0; turn < m; turn++) {
            x = x * 6364136223846793005L + 1442695040888963407L;
            takeTurn(copy, (int) (x >>> 33));
        }
        int counted = copy.answerCosts - now.answerCosts;
        return 1000 * Integer.bitCount(copy.kept) + Math.min(MOST_TOLD, counted);
    }

    // ---- save slots

    public int save(int slot) throws IndexOutOfBoundsException {
        needSlot(slot);
        return slotOf(slot).fill(now);
    }

    public int restore(int slot) throws IndexOutOfBoundsException, IllegalStateException {
        needSlot(slot);
        Slot source = slotOf(slot);
        if (!source.filled) {
            throw new IllegalStateException("nothing has been saved in the slot");
        }
        now.become(source.state);
        history.forget();
        return now.size;
    }

    // ---- what arguments have to be

    private static void needTriple(int triple) {
        if (triple < 0 || triple > LAST_TRIPLE) {
            throw new IllegalArgumentException("a triple is 0 to 999");
        }
    }

    private static void needQuestion(int question) {
        if (question < 0 || question > LAST_QUESTION) {
            throw new IllegalArgumentException("a question is 0 to 1330");
        }
    }

    private static void needPlace(int i) {
        if (i < 0) {
            throw new IllegalArgumentException("a place is not negative");
        }
    }

    private static void needOrder(int q) {
        if (q < 0 || q >= ORDERS) {
            throw new IndexOutOfBoundsException("an order is 0 to 5");
        }
    }

    private static void needOrderOrNone(int q) {
        if (q != NONE) {
            needOrder(q);
        }
    }

    private static void needJoin(int first, int second, int a, int b) {
        needQuestion(first);
        needQuestion(second);
        needComponent(a);
        needComponent(b);
    }

    private static void needComponent(int component) {
        if (component < 0 || component >= COMPONENTS) {
            throw new IllegalArgumentException("a component is 0 to 2");
        }
    }

    private static void needSlot(int slot) {
        if (slot != 0 && slot != 1) {
            throw new IndexOutOfBoundsException("a save slot is 0 or 1");
        }
    }

    // ---- joins

    /** Answers with one digit in the component a all meet the same second question: it is priced once. */
    private int lookingUpCost(int first, int second, int a, int b) {
        int sum = now.costNow(first);
        for (int digit = 0; digit < FREE; digit++) {
            int answers = now.countAnswers(Numbers.boundTo(first, a, digit));
            int asked = Numbers.boundTo(second, b, digit);
            if (answers > 0 && asked != NONE) {
                sum += answers * now.costNow(asked);
            }
        }
        return sum;
    }

    private int mergingCost(int first, int second, int a, int b) {
        int one = now.costSortedBy(first, a);
        int other = now.costSortedBy(second, b);
        return one == NONE || other == NONE ? NONE : one + other;
    }

    // ---- scripts, simulations and save slots

    private static long firstTooLong(int n) {
        long bound = 1;
        for (int i = 0; i < n && i < MOST_COMMANDS; i++) {
            bound *= GROUP;
        }
        return bound;
    }

    private static int groupOf(int n, long script, int i) {
        long rest = script;
        for (int k = i + 1; k < n && k < MOST_COMMANDS; k++) {
            rest /= GROUP;
        }
        return (int) (rest % GROUP);
    }

    private boolean succeeds(State s, int group) {
        int rest = group % 10000;
        switch (group / 10000) {
            case 1: return succeedsToPut(s, rest);
            case 2: return rest <= LAST_TRIPLE && s.take(rest) != NONE;
            case 3: return rest <= LAST_QUESTION && s.noteQuestion(rest) != NONE;
            case 4: return succeedsToKeep(s, rest);
            case 5: return succeedsToDiscard(s, rest);
            case 6: return rest == 0 && advice.follow(s) != NONE;
            case 7: return rest <= 99 && s.size >= rest;
            case 8: return rest <= LAST_QUESTION && s.costNow(rest) < s.size;
            case 9: return rest <= 999 && s.answerCosts <= rest;
            default: return false;
        }
    }

    private static boolean succeedsToPut(State s, int triple) {
        if (triple > LAST_TRIPLE || !s.canPut(triple)) {
            return false;
        }
        s.put(triple);
        return true;
    }

    private static boolean succeedsToKeep(State s, int rest) {
        int q = rest / 1000;
        if (rest % 1000 != 0 || q >= ORDERS || s.keeps(q)) {
            return false;
        }
        s.keep(q);
        return true;
    }

    private static boolean succeedsToDiscard(State s, int rest) {
        int q = rest / 1000;
        if (rest % 1000 != 0 || q >= ORDERS || !s.keeps(q)) {
            return false;
        }
        s.discard(q);
        return true;
    }

    private void takeTurn(State s, int r) {
        int kind = r % 16;
        int triple = 100 * (r / 16 % 4) + 10 * (r / 64 % 4) + r / 256 % 4;
        if (kind < 5) {
            if (s.canPut(triple)) {
                s.put(triple);
            }
        } else if (kind == 5) {
            s.take(triple);
        } else if (kind < 14) {
            int a = Math.min(FREE, r / 16 % 16);
            int b = Math.min(FREE, r / 256 % 16);
            int c = Math.min(FREE, r / 4096 % 16);
            s.noteQuestion(Numbers.questionOf(a, b, c));
        } else {
            advice.follow(s);
        }
    }

    private Slot slotOf(int slot) {
        return slot == 0 ? firstSlot : secondSlot;
    }

    /** Triples, questions and orders, told as numbers. */
    private static final class Numbers {

        /** The components by which the orders 0 to 5 compare, three for each. */
        private static final int[] BY = {0, 1, 2, 0, 2, 1, 1, 0, 2, 1, 2, 0, 2, 0, 1, 2, 1, 0};

        static int componentAt(int q, int place) {
            int i = COMPONENTS * q + place;
            return i >= 0 && i < BY.length ? BY[i] : NONE;
        }

        static int tripleDigit(int triple, int component) {
            switch (component) {
                case 0: return triple / 100;
                case 1: return triple / 10 % 10;
                default: return triple % 10;
            }
        }

        static int questionDigit(int question, int component) {
            switch (component) {
                case 0: return question / 121;
                case 1: return question / 11 % 11;
                default: return question % 11;
            }
        }

        static int questionOf(int a, int b, int c) {
            return 121 * a + 11 * b + c;
        }

        /** Of two triples the one with the lower rank comes first in the order q. */
        static int rankOf(int triple, int q) {
            int rank = 0;
            for (int place = 0; place < COMPONENTS; place++) {
                rank = 10 * rank + tripleDigit(triple, componentAt(q, place));
            }
            return rank;
        }

        static int reachOf(int question, int q) {
            int reached = 0;
            while (reached < COMPONENTS && questionDigit(question, componentAt(q, reached)) != FREE) {
                reached++;
            }
            return reached;
        }

        /** Whether the reach of the order q is all that the question binds. */
        static boolean reachesAll(int question, int q) {
            return reachOf(question, q) == countBound(question);
        }

        /** The question with the components behind the reach of the order q free. */
        static int reachedPart(int question, int q, int reached) {
            int part = question;
            for (int place = reached; place < COMPONENTS; place++) {
                int component = componentAt(q, place);
                part += unitOf(component) * (FREE - questionDigit(question, component));
            }
            return part;
        }

        /** The question with the component bound to the digit too; NONE if it is bound to another one. */
        static int boundTo(int question, int component, int digit) {
            int present = questionDigit(question, component);
            if (present == digit) {
                return question;
            }
            return present == FREE ? question + unitOf(component) * (digit - FREE) : NONE;
        }

        private static int countBound(int question) {
            int bound = 0;
            for (int component = 0; component < COMPONENTS; component++) {
                if (questionDigit(question, component) != FREE) {
                    bound++;
                }
            }
            return bound;
        }

        private static int unitOf(int component) {
            switch (component) {
                case 0: return 121;
                case 1: return 11;
                default: return 1;
            }
        }
    }

    /** The text buffer. */
    private static final class Text {

        private final char[] signs = new char[MOST_SIGNS];
        private int length;

        boolean isFull() {
            return length >= signs.length;
        }

        int put(int c) {
            if (length >= 0 && length < signs.length) {
                signs[length] = (char) c;
                length++;
            }
            return length;
        }

        int empty() {
            int previous = length;
            length = 0;
            return previous;
        }

        int questionError() {
            for (int i = 0; i < length; i++) {
                if (i >= COMPONENTS || choiceAt(i) == NONE) {
                    return i;
                }
            }
            return length < COMPONENTS ? length : NONE;
        }

        int triplesError() {
            for (int i = 0; i < length; i++) {
                boolean allowed = i % 4 == COMPONENTS ? signAt(i) == ',' : digitAt(i) != NONE;
                if (!allowed) {
                    return i;
                }
            }
            return length % 4 == COMPONENTS ? NONE : length;
        }

        int asQuestion() {
            return Numbers.questionOf(choiceAt(0), choiceAt(1), choiceAt(2));
        }

        int countTriples() {
            return (length + 1) / 4;
        }

        int tripleAt(int k) {
            return 100 * digitAt(4 * k) + 10 * digitAt(4 * k + 1) + digitAt(4 * k + 2);
        }

        private int choiceAt(int i) {
            return signAt(i) == '*' ? FREE : digitAt(i);
        }

        private int digitAt(int i) {
            int sign = signAt(i);
            return sign >= '0' && sign <= '9' ? sign - '0' : NONE;
        }

        private int signAt(int i) {
            return i >= 0 && i < length && i < signs.length ? signs[i] : NONE;
        }
    }

    /** All that actions change. */
    private static final class State {

        private final int[] triples = new int[MOST_TRIPLES];
        private int size;
        private int kept = 1;
        private int upkeepCosts;
        private int buildingCosts;
        private int answerCosts;
        private int asked;
        /** The remembered ones, the oldest one first. */
        private final int[] questions = new int[MOST_QUESTIONS];
        private int questionCount;
        private int weight = 4;

        void become(State other) {
            if (other == null) {
                return;
            }
            size = other.size;
            copyRow(other.triples, triples, size);
            kept = other.kept;
            upkeepCosts = other.upkeepCosts;
            buildingCosts = other.buildingCosts;
            answerCosts = other.answerCosts;
            asked = other.asked;
            questionCount = other.questionCount;
            copyRow(other.questions, questions, questionCount);
            weight = other.weight;
        }

        private static void copyRow(int[] from, int[] to, int count) {
            for (int i = 0; i < count && i < from.length && i < to.length; i++) {
                to[i] = from[i];
            }
        }

        int look() {
            int k = 0;
            while (k < 30 && 1 << k <= size) {
                k++;
            }
            return k;
        }

        int tripleAt(int i) {
            return i >= 0 && i < size && i < triples.length ? triples[i] : NONE;
        }

        int questionAt(int i) {
            return i >= 0 && i < questionCount && i < questions.length ? questions[i] : NONE;
        }

        // ---- triples

        boolean canPut(int triple) {
            return size < triples.length || indexOf(triple) != NONE;
        }

        /** Answers 1 if the triple was not there, otherwise 0. */
        int put(int triple) {
            if (size < 0 || size >= triples.length || indexOf(triple) != NONE) {
                return 0;
            }
            payUpkeep();
            triples[size] = triple;
            size++;
            return 1;
        }

        /** Answers 1 if the triple was there, otherwise 0. */
        int take(int triple) {
            int index = indexOf(triple);
            if (index < 0) {
                return 0;
            }
            payUpkeep();
            for (int i = index; i + 1 < size && i + 1 < triples.length; i++) {
                triples[i] = triples[i + 1];
            }
            size--;
            return 1;
        }

        private int indexOf(int triple) {
            for (int i = 0; i < size; i++) {
                if (tripleAt(i) == triple) {
                    return i;
                }
            }
            return NONE;
        }

        private void payUpkeep() {
            upkeepCosts += Integer.bitCount(kept) * (look() + 1);
        }

        // ---- orders

        boolean keeps(int q) {
            return (kept >> q & 1) == 1;
        }

        int keep(int q) {
            int cost = size * look();
            buildingCosts += cost;
            kept |= 1 << q;
            return cost;
        }

        int discard(int q) {
            kept &= ~(1 << q);
            return Integer.bitCount(kept);
        }

        // ---- questions

        int countAnswers(int question) {
            int answers = 0;
            for (int i = 0; i < size; i++) {
                if (fits(tripleAt(i), question)) {
                    answers++;
                }
            }
            return answers;
        }

        int costBy(int question, int q) {
            int reached = Numbers.reachOf(question, q);
            return reached == 0 ? size : look() + countAnswers(Numbers.reachedPart(question, q, reached));
        }

        int costNow(int question) {
            int least = size;
            for (int q = 0; q < ORDERS; q++) {
                if (keeps(q)) {
                    least = Math.min(least, costBy(question, q));
                }
            }
            return least;
        }

        /** The order that answers the question; NONE for a full walk. */
        int answeringOrder(int question) {
            int best = NONE;
            int least = size;
            for (int q = 0; q < ORDERS; q++) {
                int cost = keeps(q) ? costBy(question, q) : size;
                if (cost < least) {
                    least = cost;
                    best = q;
                }
            }
            return best;
        }

        /** The least cost by a kept order that sorts the answers by the component; NONE without such an order. */
        int costSortedBy(int question, int component) {
            int least = NONE;
            for (int q = 0; q < ORDERS; q++) {
                if (keeps(q) && sortsBy(question, q, component)) {
                    int cost = costBy(question, q);
                    least = least == NONE ? cost : Math.min(least, cost);
                }
            }
            return least;
        }

        /** What follows the reach is a free component: one that is bound is never sorted by. */
        private static boolean sortsBy(int question, int q, int component) {
            int reached = Numbers.reachOf(question, q);
            return reached < COMPONENTS
                && Numbers.reachesAll(question, q)
                && Numbers.componentAt(q, reached) == component;
        }

        /** The answer with this place in the order q, or, with NONE, as triples came. */
        int answerAt(int question, int q, int place) {
            if (place >= size) {
                return NONE;
            }
            for (int i = 0; i < size; i++) {
                if (fits(tripleAt(i), question) && countBefore(question, q, i) == place) {
                    return tripleAt(i);
                }
            }
            return NONE;
        }

        private int countBefore(int question, int q, int index) {
            int limit = rankAt(index, q);
            int before = 0;
            for (int i = 0; i < size; i++) {
                if (fits(tripleAt(i), question) && rankAt(i, q) < limit) {
                    before++;
                }
            }
            return before;
        }

        private int rankAt(int index, int q) {
            return q == NONE ? index : Numbers.rankOf(tripleAt(index), q);
        }

        private static boolean fits(int triple, int question) {
            if (question < 0) {
                return false;
            }
            int a = question / 121;
            int b = question / 11 % 11;
            int c = question % 11;
            return (a == FREE || a == triple / 100)
                && (b == FREE || b == triple / 10 % 10)
                && (c == FREE || c == triple % 10);
        }

        /** Asks the question; answers how many answers it has. */
        int noteQuestion(int question) {
            answerCosts += costNow(question);
            asked++;
            if (questionCount >= questions.length) {
                forgetOldest();
            }
            if (questionCount >= 0 && questionCount < questions.length) {
                questions[questionCount] = question;
                questionCount++;
            }
            return countAnswers(question);
        }

        private void forgetOldest() {
            for (int i = 0; i + 1 < questionCount && i + 1 < questions.length; i++) {
                questions[i] = questions[i + 1];
            }
            questionCount--;
        }
    }

    /** The states before the last actions, in rows that are used again. */
    private static final class History {

        private final State[] states = new State[MOST_STATES];
        private int oldest;
        private int size;

        History() {
            for (int i = 0; i < states.length; i++) {
                states[i] = new State();
            }
        }

        void push(State present) {
            if (size >= MOST_STATES) {
                oldest = (oldest + 1) % MOST_STATES;
                size--;
            }
            State place = stateAt(size);
            if (place != null) {
                place.become(present);
                size++;
            }
        }

        int pop(State present) {
            if (size > 0) {
                size--;
                present.become(stateAt(size));
            }
            return size;
        }

        void forget() {
            size = 0;
        }

        private State stateAt(int i) {
            int index = (oldest + i) % MOST_STATES;
            return index >= 0 && index < states.length ? states[index] : null;
        }
    }

    /** A save slot. */
    private static final class Slot {

        private final State state = new State();
        private boolean filled;

        int fill(State present) {
            state.become(present);
            filled = true;
            return state.size;
        }
    }

    /** Advice by the remembered questions of the state that was learnt last. */
    private static final class Advice {

        /** For each remembered question what it costs by each order: each sum below needs these again. */
        private final int[] costs = new int[MOST_QUESTIONS * ORDERS];
        /** For each remembered question the set of the orders that reach all it binds. */
        private final int[] covers = new int[MOST_QUESTIONS];
        private int questionCount;
        private int fullWalk;
        private int kept;
        private int upkeep;

        void learn(State s) {
            questionCount = s.questionCount;
            fullWalk = s.size;
            kept = s.kept;
            upkeep = s.weight * (s.look() + 1);
            int place = 0;
            for (int i = 0; i < questionCount && i < covers.length; i++) {
                int question = s.questionAt(i);
                int cover = 0;
                for (int q = 0; q < ORDERS && place < costs.length; q++) {
                    costs[place] = s.costBy(question, q);
                    place++;
                    cover |= Numbers.reachesAll(question, q) ? 1 << q : 0;
                }
                covers[i] = cover;
            }
        }

        int costWith(int set) {
            int sum = 0;
            for (int i = 0; i < questionCount; i++) {
                int least = fullWalk;
                for (int q = 0; q < ORDERS; q++) {
                    if ((set >> q & 1) == 1) {
                        least = Math.min(least, costAt(i, q));
                    }
                }
                sum += least;
            }
            return sum;
        }

        private int costAt(int i, int q) {
            int place = ORDERS * i + q;
            return place >= 0 && place < costs.length ? costs[place] : fullWalk;
        }

        /** Gain and loss alike: what the questions cost without the order less what they cost with it, less its upkeep. */
        int worth(int q) {
            int bit = 1 << q;
            return costWith(kept & ~bit) - costWith(kept | bit) - upkeep;
        }

        int orderToBuild() {
            int best = NONE;
            int greatest = 0;
            for (int q = 0; q < ORDERS; q++) {
                int gain = (kept >> q & 1) == 0 ? worth(q) : 0;
                if (gain > greatest) {
                    greatest = gain;
                    best = q;
                }
            }
            return best;
        }

        int orderToDrop() {
            int best = NONE;
            int least = 0;
            for (int q = 0; q < ORDERS; q++) {
                int loss = (kept >> q & 1) == 1 ? worth(q) : 0;
                if (loss < least) {
                    least = loss;
                    best = q;
                }
            }
            return best;
        }

        /** Tidies the state; answers as tidy does. */
        int follow(State s) {
            learn(s);
            int built = orderToBuild();
            if (built != NONE) {
                s.keep(built);
                return BUILT + built;
            }
            int dropped = orderToDrop();
            if (dropped != NONE) {
                s.discard(dropped);
            }
            return dropped;
        }

        int smallestCover() {
            int best = SETS - 1;
            for (int set = SETS - 1; set >= 0; set--) {
                if (Integer.bitCount(set) <= Integer.bitCount(best) && coversAll(set)) {
                    best = set;
                }
            }
            return best;
        }

        private boolean coversAll(int set) {
            for (int i = 0; i < questionCount && i < covers.length; i++) {
                if ((covers[i] & set) == 0) {
                    return false;
                }
            }
            return true;
        }

        int cheapestSet() {
            int best = 0;
            int least = costWith(0);
            for (int set = 1; set < SETS; set++) {
                int cost = costWith(set) + upkeep * Integer.bitCount(set);
                if (cost < least) {
                    least = cost;
                    best = set;
                }
            }
            return best;
        }
    }
}
