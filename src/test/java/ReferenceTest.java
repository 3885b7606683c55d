import java.util.Random;

/** Random runs of calls, from fixed seeds, on GuideSearch and on Reference: the same answers. */
public final class ReferenceTest {
    private static final int RUNS = 1000;
    // What a guide answers behind its 512th call is free, so a run ends before it.
    private static final int MAX_CALLS = 512;
    // More calls than any step makes: next, exact, cost, how many nodes, and some of the nodes.
    private static final int STEP_CALLS = 30;
    private static final int NODES_ASKED = 8;
    private static final int[] DOWNS = {1, 2, 3, 4, 6, 12};
    private static final long[] ODD_LONGS = {
        Long.MIN_VALUE, Long.MAX_VALUE, -1, 1L << 32, (1L << 32) + 1, 0};
    private static final int[] ODD_INTS = {Integer.MIN_VALUE, Integer.MAX_VALUE, -1, -2, 33, 64};

    private final Check check = new Check();
    private final Random random;
    private final int run;
    private final GuideSearch guide = new GuideSearch();
    private final Reference due = new Reference();
    private int bigTrees = 0;

    private ReferenceTest(int run) {
        this.run = run;
        this.random = new Random(run);
    }

    public static void main(String[] args) {
        Check all = new Check();
        for (int run = 1; run <= RUNS; run++) {
            ReferenceTest test = new ReferenceTest(run);
            if (run % 2 == 0) {
                test.fill();
            }
            while (test.check.asked() <= MAX_CALLS - STEP_CALLS) {
                test.step();
            }
            test.check.endIfWrong();
            all.due("run " + run, 0, 0);
        }
        all.end();
    }

    private void same(String call, long got, long want) {
        check.due("run " + run + ": " + call, got, want);
    }

    /** A full garage at once: the random calls alone would seldom make one. */
    private void fill() {
        boolean sparse = random.nextBoolean();
        int faults = 2 + random.nextInt(7);
        for (int i = 0; i < faults; i++) {
            addFault(random.nextInt(4), 3 + random.nextInt(8));
        }
        for (int i = random.nextInt(6); i > 0; i--) {
            addPair(1 + random.nextInt(faults), 1 + random.nextInt(faults));
        }
        int tests = 1 + random.nextInt(5);
        for (int t = 1; t <= tests; t++) {
            addTest(random.nextInt(8) == 0 ? 0 : random.nextInt(401));
            for (int c = 1; c <= 12; c++) {
                setRow(t, c, sparse);
            }
        }
    }

    private void setRow(int test, int cause, boolean sparse) {
        setOdds(test, cause, 0, 0, 1);
        if (sparse) {
            setOdds(test, cause, random.nextInt(3), 1, 1);
            return;
        }
        int rest = 12;
        for (int a = 0; a < 3; a++) {
            int part = random.nextInt(rest + 1);
            setOdds(test, cause, a, part, 12);
            rest -= part;
        }
    }

    private void step() {
        switch (random.nextInt(22)) {
            case 0 -> addFault(anyLong(-1, 11), anyLong(-1, 11));
            case 1 -> addPair(anyInt(0, 13), anyInt(0, 13));
            case 2 -> addTest(random.nextInt(3) == 0 ? anyLong(-1, 1) : anyLong(1, 401));
            case 3, 4, 5, 6, 7, 8 -> setOdds(anyInt(0, 6), anyInt(0, 13), anyInt(-1, 3),
                    anyLong(-1, 6), anyDown());
            case 9 -> addNeed();
            case 10, 11, 12, 13 -> askNext();
            case 14, 15 -> giveAnswer();
            case 16, 17 -> askOdd();
            case 18 -> askLearn();
            case 19, 20 -> askTree(anyInt(-2, 40), anyInt(-1, 3));
            default -> askNever();
        }
    }

    private int anyInt(int from, int to) {
        if (random.nextInt(60) == 0) {
            return ODD_INTS[random.nextInt(ODD_INTS.length)];
        }
        return from + random.nextInt(to - from + 1);
    }

    private long anyLong(int from, int to) {
        if (random.nextInt(60) == 0) {
            return ODD_LONGS[random.nextInt(ODD_LONGS.length)];
        }
        return from + random.nextInt(to - from + 1);
    }

    private long anyDown() {
        return random.nextInt(8) == 0 ? anyLong(-1, 13) : DOWNS[random.nextInt(DOWNS.length)];
    }

    private void addFault(long up, long down) {
        same("fault(" + up + ", " + down + ")", guide.fault(up, down), due.fault(up, down));
    }

    private void addPair(int a, int b) {
        same("pair(" + a + ", " + b + ")", guide.pair(a, b), due.pair(a, b));
    }

    private void addTest(long cost) {
        same("test(" + cost + ")", guide.test(cost), due.test(cost));
    }

    private void setOdds(int test, int cause, int answer, long up, long down) {
        same("odds(" + test + ", " + cause + ", " + answer + ", " + up + ", " + down + ")",
                guide.odds(test, cause, answer, up, down),
                due.odds(test, cause, answer, up, down));
    }

    private void addNeed() {
        int test = anyInt(0, 6);
        int other = anyInt(0, 6);
        same("needs(" + test + ", " + other + ")", guide.needs(test, other),
                due.needs(test, other));
    }

    private void askNext() {
        long steps = random.nextInt(3) == 0 ? anyLong(-1, 70) : 1L << 2 * random.nextInt(6);
        steps -= random.nextInt(4) == 0 ? 1 : 0;
        // The reference needs long for a tree of five tests, so a run makes only two of them.
        if (steps >= 1024 && ++bigTrees > 2) {
            steps = 256;
        }
        same("next(" + steps + ")", guide.next(steps), due.next(steps));
        same("exact()", guide.exact() ? 1 : 0, due.exact() ? 1 : 0);
        same("cost()", guide.cost(), due.cost());
        askTree(-1, 0);
        int nodes = due.tree(-1, 0);
        for (int n = 0; n < NODES_ASKED && n <= nodes; n++) {
            int i = nodes < NODES_ASKED ? n : random.nextInt(nodes + 1);
            for (int what = 0; what < 3; what++) {
                askTree(i, what);
            }
        }
    }

    private void giveAnswer() {
        int test = anyInt(0, 6);
        int a = anyInt(-1, 3);
        same("answer(" + test + ", " + a + ")", guide.answer(test, a), due.answer(test, a));
    }

    private void askOdd() {
        int cause = anyInt(0, 13);
        int side = anyInt(0, 1);
        Long want = due.odd(cause, side);
        String call = "odd(" + cause + ", " + side + ")";
        if (want == null) {
            check.dueThrow("run " + run + ": " + call, guide, cause, side);
        } else {
            check.dueNoThrow("run " + run + ": " + call, guide, cause, side, want);
        }
    }

    private void askLearn() {
        int cause = random.nextInt(3) == 0 ? anyInt(-1, 13) : anyInt(0, 2);
        same("learn(" + cause + ")", guide.learn(cause), due.learn(cause));
    }

    private void askTree(int i, int what) {
        same("tree(" + i + ", " + what + ")", guide.tree(i, what), due.tree(i, what));
    }

    private void askNever() {
        int answer = anyInt(-1, 3);
        same("never(" + answer + ")", guide.never(answer), due.never(answer));
        same("exact()", guide.exact() ? 1 : 0, due.exact() ? 1 : 0);
        same("cost()", guide.cost(), due.cost());
    }
}
