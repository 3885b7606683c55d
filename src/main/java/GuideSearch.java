import java.util.Arrays;

/**
 * A guide that finds which fault a car has: it tells the next test by the least expected cost of a
 * whole tree, or by one step, and brings the odds of all causes up to date with every answer.
 *
 * <p>Causes and tests bear numbers from 1 on, inside as outside; slot 0 of their rows is spare. A
 * case is one int, its code: two bits for each test, 0 for no answer, else the answer + 1.
 */
public final class GuideSearch {
    private static final int UNKNOWN = -1;
    private static final int OUT_OF_RANGE = -2;
    private static final int WRONG_STATE = -3;
    private static final int NO_ROOM = -4;

    private static final int MAX_FAULTS = 8;
    private static final int MAX_CAUSES = 12;
    private static final int MAX_TESTS = 5;
    private static final int MAX_NODES = 300;
    private static final int MAX_DOWN = 10;
    private static final int MAX_COST = 400;
    private static final int MAX_LEARNED = 5;

    private static final int ANSWERS = 3;
    private static final int NO_ANSWER = -1;
    private static final int NO_CASE = 0;
    private static final int CODES = 1 << 2 * MAX_TESTS;
    private static final int TWELVE = 12;
    private static final int ODDS_BITS = 4;
    private static final int ODDS_MASK = 15;
    private static final int PENALTY = 300;

    // Every down of 1 .. 10 divides 2520, so priors are whole in units of 1 / 2520^2, pairs too.
    private static final long PRIOR_UNIT = 2520;
    // Twelve to the power of MAX_TESTS: each answer may divide a weight by twelve, it stays whole.
    private static final long ANSWER_UNIT = 248832;
    // Far above the steps that Euclid needs for two longs.
    private static final int MAX_DIVISIONS = 200;

    private final Causes causes = new Causes();
    private final Tests tests = new Tests();
    private final Cases cases = new Cases(causes, tests);
    private final Plan plan = new Plan(cases);
    private int open = NO_CASE;
    private boolean planned = false;

    /** No faults, no tests, a case without answers. */
    public GuideSearch() {
    }

    /** A fault with the prior up / down: its number as a cause. */
    public int fault(long up, long down) {
        if (down < 1 || down > MAX_DOWN || up < 0 || up > down) {
            return OUT_OF_RANGE;
        }
        if (causes.faults >= MAX_FAULTS || causes.count >= MAX_CAUSES) {
            return NO_ROOM;
        }
        return causes.addFault(PRIOR_UNIT / down * up);
    }

    /** A test: its number. */
    public int test(long cost) {
        if (cost < 0 || cost > MAX_COST) {
            return OUT_OF_RANGE;
        }
        if (tests.count >= MAX_TESTS) {
            return NO_ROOM;
        }
        return tests.add((int) cost);
    }

    /** The odds up / down of an answer: the twelfths of all three answers together. */
    public int odds(int test, int fault, int answer, long up, long down) {
        if (!tests.knows(test) || !causes.knows(fault)) {
            return UNKNOWN;
        }
        if (!isAnswer(answer) || !isPartOfTwelve(up, down)) {
            return OUT_OF_RANGE;
        }
        int twelfths = (int) (TWELVE / down * up);
        int together = tests.together(test, fault) - tests.twelfths(test, fault, answer) + twelfths;
        if (together > TWELVE) {
            return OUT_OF_RANGE;
        }
        if (answerIn(open, test) != NO_ANSWER) {
            return WRONG_STATE;
        }
        tests.setTwelfths(test, fault, answer, twelfths);
        return together;
    }

    /** A test needs another one: how many it needs. */
    public int needs(int test, int other) {
        if (!tests.knows(test) || !tests.knows(other)) {
            return UNKNOWN;
        }
        if (test == other) {
            return OUT_OF_RANGE;
        }
        if ((tests.allNeededBy(other) & bit(test)) != 0) {
            return WRONG_STATE;
        }
        return tests.addNeed(test, other);
    }

    /** The next test by the tree, or by one step; 0 if the case is at its end. */
    public int next(long steps) {
        if (steps < 0) {
            return OUT_OF_RANGE;
        }
        planned = 1L << 2 * tests.unanswered(open) <= steps;
        if (planned) {
            return plan.make(open);
        }
        plan.drop();
        return cases.oneStep(open);
    }

    /** A test's answer: how many causes are left. */
    public int answer(int test, int a) {
        if (!tests.knows(test)) {
            return UNKNOWN;
        }
        if (!isAnswer(a)) {
            return OUT_OF_RANGE;
        }
        if (!tests.isOpen(test, open)) {
            return WRONG_STATE;
        }
        open = withAnswer(open, test, a);
        return Integer.bitCount(cases.left(open));
    }

    /** A cause's weight / the weight of the case, in lowest terms: side 0 above, or else below. */
    public long odd(int fault, int side) throws ArithmeticException {
        if (!causes.knows(fault)) {
            return UNKNOWN;
        }
        long whole = cases.weight(open);
        if (whole <= 0) {
            throw new ArithmeticException("the weight of the case is 0");
        }
        long part = cases.weightOf(fault, open);
        long divisor = commonDivisor(whole, part);
        if (divisor <= 0) {
            return UNKNOWN;
        }
        return side == 0 ? part / divisor : whole / divisor;
    }

    /** Whether the last next() that was not refused was by the tree. */
    public boolean exact() {
        return planned;
    }

    /** A thousand times the tree's value for each unit of the case's weight; -1 without a tree. */
    public long cost() {
        return plan.thousandths;
    }

    /** A cause more, a pair of two faults: its number. */
    public int pair(int a, int b) {
        if (!causes.isFault(a) || !causes.isFault(b)) {
            return UNKNOWN;
        }
        if (a == b) {
            return OUT_OF_RANGE;
        }
        if (causes.hasPair(bit(a) | bit(b))) {
            return WRONG_STATE;
        }
        if (causes.count >= MAX_CAUSES) {
            return NO_ROOM;
        }
        return causes.addPair(a, b);
    }

    /** The case is closed, this cause was it (0: another one): how often it was learned. */
    public int learn(int fault) {
        if (fault != 0 && !causes.knows(fault)) {
            return UNKNOWN;
        }
        open = NO_CASE;
        return causes.countLearned(fault);
    }

    /** Node i of the last tree: 0 its test, 1 the causes left, 2 its answer; -1, 0: the nodes. */
    public int tree(int i, int what) {
        if (i == -1 && what == 0) {
            return plan.nodes;
        }
        if (i < 0 || i >= plan.nodes) {
            return UNKNOWN;
        }
        return plan.tell(i, what);
    }

    /** How many tests there are for which no cause has odds above 0 for an answer. */
    public int never(int answer) {
        if (!isAnswer(answer)) {
            return OUT_OF_RANGE;
        }
        int found = 0;
        for (int test = 1; test <= tests.count; test++) {
            if (!tests.canAnswer(test, answer, causes.count)) {
                found++;
            }
        }
        return found;
    }

    private static boolean isAnswer(int answer) {
        return answer >= 0 && answer < ANSWERS;
    }

    private static boolean isPartOfTwelve(long up, long down) {
        return down >= 1 && TWELVE % down == 0 && up >= 0 && up <= down;
    }

    private static int bit(int number) {
        return 1 << number;
    }

    private static boolean holds(int set, int number) {
        return (set & bit(number)) != 0;
    }

    private static int answerIn(int code, int test) {
        return (code >> 2 * (test - 1) & 3) - 1;
    }

    private static int withAnswer(int code, int test, int answer) {
        return code | answer + 1 << 2 * (test - 1);
    }

    private static long commonDivisor(long a, long b) {
        long high = a;
        long low = b;
        for (int i = 0; i < MAX_DIVISIONS && low != 0; i++) {
            long rest = high % low;
            high = low;
            low = rest;
        }
        return high;
    }

    /** Faults and pairs, numbered together, how often each was learned (slot 0: none of them). */
    private static final class Causes {
        private final long[] priors = new long[MAX_CAUSES + 1];
        private final int[] members = new int[MAX_CAUSES + 1];
        private final int[] learned = new int[MAX_CAUSES + 1];
        private int count = 0;
        private int faults = 0;

        boolean knows(int cause) {
            return cause >= 1 && cause <= count && cause <= MAX_CAUSES;
        }

        boolean isFault(int cause) {
            return knows(cause) && members[cause] == 0;
        }

        boolean hasPair(int both) {
            for (int cause = 1; cause <= MAX_CAUSES; cause++) {
                if (members[cause] == both) {
                    return true;
                }
            }
            return false;
        }

        int addFault(long share) {
            if (count >= MAX_CAUSES) {
                return NO_ROOM;
            }
            count++;
            faults++;
            priors[count] = share * PRIOR_UNIT;
            return count;
        }

        int addPair(int a, int b) {
            if (count >= MAX_CAUSES || !knows(a) || !knows(b)) {
                return NO_ROOM;
            }
            count++;
            priors[count] = priors[a] / PRIOR_UNIT * (priors[b] / PRIOR_UNIT);
            members[count] = bit(a) | bit(b);
            return count;
        }

        int countLearned(int cause) {
            if (cause < 0 || cause > MAX_CAUSES) {
                return UNKNOWN;
            }
            learned[cause]++;
            return learned[cause];
        }

        long prior(int cause) {
            if (!knows(cause)) {
                return 0;
            }
            return priors[cause] * (Math.min(learned[cause], MAX_LEARNED) + 1);
        }
    }

    /** Tests with their costs, the tests that they need, and the odds of their answers. */
    private static final class Tests {
        private final int[] costs = new int[MAX_TESTS + 1];
        private final int[] needed = new int[MAX_TESTS + 1];
        // The odds of a test and a cause are one int, four bits for the twelfths of each answer.
        private final int[][] table = new int[MAX_TESTS + 1][MAX_CAUSES + 1];
        private int count = 0;

        Tests() {
            for (int test = 1; test <= MAX_TESTS; test++) {
                Arrays.fill(table[test], TWELVE);
            }
        }

        boolean knows(int test) {
            return test >= 1 && test <= count && test <= MAX_TESTS;
        }

        int add(int price) {
            if (count >= MAX_TESTS) {
                return NO_ROOM;
            }
            count++;
            costs[count] = price;
            return count;
        }

        int price(int test) {
            return knows(test) ? costs[test] : 0;
        }

        int twelfths(int test, int cause, int answer) {
            if (!hasPlace(test, cause)) {
                return 0;
            }
            return table[test][cause] >> ODDS_BITS * answer & ODDS_MASK;
        }

        void setTwelfths(int test, int cause, int answer, int twelfths) {
            if (!hasPlace(test, cause)) {
                return;
            }
            int others = table[test][cause] & ~(ODDS_MASK << ODDS_BITS * answer);
            table[test][cause] = others | twelfths << ODDS_BITS * answer;
        }

        int together(int test, int cause) {
            int sum = 0;
            for (int answer = 0; answer < ANSWERS; answer++) {
                sum += twelfths(test, cause, answer);
            }
            return sum;
        }

        int addNeed(int test, int other) {
            if (!knows(test)) {
                return UNKNOWN;
            }
            needed[test] |= bit(other);
            return Integer.bitCount(needed[test]);
        }

        /** The tests that a test needs, also by some in between. */
        int allNeededBy(int test) {
            int all = knows(test) ? needed[test] : 0;
            for (int round = 0; round < MAX_TESTS; round++) {
                for (int other = 1; other <= MAX_TESTS; other++) {
                    all |= holds(all, other) ? needed[other] : 0;
                }
            }
            return all;
        }

        int unanswered(int code) {
            int found = 0;
            for (int test = 1; test <= count; test++) {
                found += answerIn(code, test) == NO_ANSWER ? 1 : 0;
            }
            return found;
        }

        /** Whether a test has no answer in a case, and all that it needs have one. */
        boolean isOpen(int test, int code) {
            if (!knows(test) || answerIn(code, test) != NO_ANSWER) {
                return false;
            }
            for (int other = 1; other <= MAX_TESTS; other++) {
                if (holds(needed[test], other) && answerIn(code, other) == NO_ANSWER) {
                    return false;
                }
            }
            return true;
        }

        boolean canAnswer(int test, int answer, int causeCount) {
            for (int cause = 1; cause <= causeCount; cause++) {
                if (twelfths(test, cause, answer) > 0) {
                    return true;
                }
            }
            return false;
        }

        /** Whether two causes of a set have other odds for one of the answers. */
        boolean tellsApart(int test, int set) {
            if (!knows(test)) {
                return false;
            }
            int first = 0;
            for (int cause = 1; cause <= MAX_CAUSES; cause++) {
                if (!holds(set, cause)) {
                    continue;
                }
                if (first == 0) {
                    first = cause;
                } else if (table[test][cause] != table[test][first]) {
                    return true;
                }
            }
            return false;
        }

        private boolean hasPlace(int test, int cause) {
            return knows(test) && cause >= 1 && cause <= MAX_CAUSES;
        }
    }

    /** What holds in a case, told by its code; all weights are in one and the same unit. */
    private static final class Cases {
        private final Causes causes;
        private final Tests tests;

        Cases(Causes causes, Tests tests) {
            this.causes = causes;
            this.tests = tests;
        }

        long weightOf(int cause, int code) {
            long weight = causes.prior(cause) * ANSWER_UNIT;
            for (int test = 1; test <= tests.count; test++) {
                int answer = answerIn(code, test);
                if (answer != NO_ANSWER) {
                    weight = weight / TWELVE * tests.twelfths(test, cause, answer);
                }
            }
            return weight;
        }

        long weight(int code) {
            long sum = 0;
            for (int cause = 1; cause <= causes.count; cause++) {
                sum += weightOf(cause, code);
            }
            return sum;
        }

        private long greatestWeight(int code) {
            long greatest = 0;
            for (int cause = 1; cause <= causes.count; cause++) {
                greatest = Math.max(greatest, weightOf(cause, code));
            }
            return greatest;
        }

        /** The set of the causes that are left. */
        int left(int code) {
            int set = 0;
            for (int cause = 1; cause <= causes.count; cause++) {
                set |= weightOf(cause, code) > 0 ? bit(cause) : 0;
            }
            return set;
        }

        /** The set of the usable tests; it is empty just when the case is at its end. */
        int usable(int code, int left) {
            if (Integer.bitCount(left) < 2) {
                return 0;
            }
            int set = 0;
            for (int test = 1; test <= tests.count; test++) {
                if (tests.isOpen(test, code) && tests.tellsApart(test, left)) {
                    set |= bit(test);
                }
            }
            return set;
        }

        /** The first test of a set that costs nothing, or 0. */
        int firstFree(int set) {
            for (int test = 1; test <= tests.count; test++) {
                if (holds(set, test) && tests.price(test) == 0) {
                    return test;
                }
            }
            return 0;
        }

        int oneStep(int code) {
            int usable = usable(code, left(code));
            int free = firstFree(usable);
            return free != 0 ? free : bestGain(code, usable);
        }

        private int bestGain(int code, int usable) {
            int best = 0;
            long bestGain = 0;
            for (int test = 1; test <= tests.count; test++) {
                if (!holds(usable, test)) {
                    continue;
                }
                long gain = gain(code, test);
                // Gains over costs, compared without a division, since both costs are above 0.
                if (best == 0 || gain * tests.price(best) > bestGain * tests.price(test)) {
                    best = test;
                    bestGain = gain;
                }
            }
            return best;
        }

        private long gain(int code, int test) {
            long sum = -greatestWeight(code);
            for (int answer = 0; answer < ANSWERS; answer++) {
                sum += greatestWeight(withAnswer(code, test, answer));
            }
            return sum;
        }
    }

    /** The tree from a case on: each case that it may come to is valued once, by its code. */
    private static final class Plan {
        private static final int NOT_VALUED = -1;
        private static final int NONE = -1;

        private final Cases cases;
        private final long[] values = new long[CODES];
        private final byte[] picks = new byte[CODES];
        // The causes' weights in the case that is looked at, and in those on the way to it.
        private final long[][] weights = new long[MAX_TESTS + 1][MAX_CAUSES + 1];
        private final byte[] nodeTests = new byte[MAX_NODES];
        private final byte[] nodeLefts = new byte[MAX_NODES];
        private final byte[] nodeAnswers = new byte[MAX_NODES];
        private int nodes = 0;
        private long thousandths = NONE;

        Plan(Cases cases) {
            this.cases = cases;
        }

        void drop() {
            nodes = 0;
            thousandths = NONE;
        }

        /** Makes the tree from a case on and tells its first test, 0 at an end. */
        int make(int code) {
            drop();
            if (code < 0 || code >= CODES) {
                return 0;
            }
            Arrays.fill(values, NOT_VALUED);
            weighFirst(code);
            choose(code, 0);
            long weight = weightAt(0);
            if (weight > 0) {
                // The value times 1000 may not fit a long; the rest times 1000 does.
                thousandths = values[code] / weight * 1000 + values[code] % weight * 1000 / weight;
            }
            keep(code, NO_ANSWER, 0);
            return picks[code];
        }

        int tell(int i, int what) {
            if (i < 0 || i >= MAX_NODES) {
                return UNKNOWN;
            }
            switch (what) {
                case 0:
                    return nodeTests[i];
                case 1:
                    return nodeLefts[i];
                case 2:
                    return nodeAnswers[i];
                default:
                    return OUT_OF_RANGE;
            }
        }

        private void weighFirst(int code) {
            for (int cause = 1; cause <= MAX_CAUSES; cause++) {
                weights[0][cause] = cases.weightOf(cause, code);
            }
        }

        private void weighBehind(int test, int answer, int depth) {
            if (depth < 0 || depth >= MAX_TESTS) {
                return;
            }
            for (int cause = 1; cause <= MAX_CAUSES; cause++) {
                long before = weights[depth][cause];
                weights[depth + 1][cause] = before == 0
                        ? 0 : before / TWELVE * cases.tests.twelfths(test, cause, answer);
            }
        }

        private long weightAt(int depth) {
            long sum = 0;
            for (int cause = 1; cause <= MAX_CAUSES && depth >= 0 && depth <= MAX_TESTS; cause++) {
                sum += weights[depth][cause];
            }
            return sum;
        }

        private int leftAt(int depth) {
            int set = 0;
            for (int cause = 1; cause <= MAX_CAUSES && depth >= 0 && depth <= MAX_TESTS; cause++) {
                set |= weights[depth][cause] > 0 ? bit(cause) : 0;
            }
            return set;
        }

        /** Values the case whose weights stand at a depth, and picks its test, 0 at an end. */
        private void choose(int code, int depth) {
            if (depth > MAX_TESTS || code < 0 || code >= CODES) {
                return;
            }
            int left = leftAt(depth);
            int usable = cases.usable(code, left);
            int free = cases.firstFree(usable);
            int candidates = free != 0 ? bit(free) : usable;
            long weight = weightAt(depth);
            int best = 0;
            long least = PENALTY * Math.max(Integer.bitCount(left) - 1, 0) * weight;
            for (int test = 1; test <= MAX_TESTS; test++) {
                if (!holds(candidates, test)) {
                    continue;
                }
                long sum = cases.tests.price(test) * weight + valuesBehind(test, code, depth);
                if (best == 0 || sum < least) {
                    best = test;
                    least = sum;
                }
            }
            values[code] = least;
            picks[code] = (byte) best;
        }

        private long valuesBehind(int test, int code, int depth) {
            long sum = 0;
            for (int answer = 0; answer < ANSWERS; answer++) {
                int behind = withAnswer(code, test, answer);
                if (behind < 0 || behind >= CODES) {
                    continue;
                }
                if (values[behind] == NOT_VALUED) {
                    weighBehind(test, answer, depth);
                    choose(behind, depth + 1);
                }
                sum += values[behind];
            }
            return sum;
        }

        /** Keeps the node of the case whose weights stand at a depth, then those behind it. */
        private void keep(int code, int answer, int depth) {
            int left = Integer.bitCount(leftAt(depth));
            if (left == 0 || nodes >= MAX_NODES || code < 0 || code >= CODES) {
                return;
            }
            int test = picks[code];
            nodeTests[nodes] = (byte) test;
            nodeLefts[nodes] = (byte) left;
            nodeAnswers[nodes] = (byte) answer;
            nodes++;
            for (int a = 0; a < ANSWERS && test != 0 && depth < MAX_TESTS; a++) {
                weighBehind(test, a, depth);
                keep(withAnswer(code, test, a), a, depth + 1);
            }
        }
    }
}
