import java.math.BigInteger;
import java.util.ArrayList;
import java.util.Arrays;
import java.util.List;

/**
 * The document once more, slowly: big fractions, no memory of cases, a tree of objects. A case is
 * a row of answers, -1 where there is none. Causes and tests are counted from 0 inside.
 */
final class Reference {
    /** An exact fraction, in lowest terms, its lower side above 0. */
    record Fraction(BigInteger up, BigInteger down) implements Comparable<Fraction> {
        static final Fraction ZERO = of(0, 1);

        static Fraction of(long up, long down) {
            return reduced(BigInteger.valueOf(up), BigInteger.valueOf(down));
        }

        private static Fraction reduced(BigInteger up, BigInteger down) {
            BigInteger divisor = up.gcd(down);
            if (down.signum() < 0) {
                divisor = divisor.negate();
            }
            return new Fraction(up.divide(divisor), down.divide(divisor));
        }

        Fraction plus(Fraction o) {
            return reduced(up.multiply(o.down).add(o.up.multiply(down)), down.multiply(o.down));
        }

        Fraction minus(Fraction o) {
            return plus(o.times(of(-1, 1)));
        }

        Fraction times(Fraction o) {
            return reduced(up.multiply(o.up), down.multiply(o.down));
        }

        Fraction over(Fraction o) {
            return reduced(up.multiply(o.down), down.multiply(o.up));
        }

        @Override
        public int compareTo(Fraction o) {
            return up.multiply(o.down).compareTo(o.up.multiply(down));
        }
    }

    private record Node(int test, int left, int answer) { }

    private static final class Sub {
        Fraction value;
        int test = -1;
        final Sub[] behind = new Sub[3];
        int left;
        boolean empty;
    }

    private final List<Fraction> priors = new ArrayList<>();
    private final List<int[]> members = new ArrayList<>();
    private final int[] learned = new int[13];
    private final List<Integer> costs = new ArrayList<>();
    private final int[][][] odds = new int[5][12][3];
    private final boolean[][] needs = new boolean[5][5];
    private int[] open = new int[0];
    private boolean exact = false;
    private long told = -1;
    private List<Node> nodes = new ArrayList<>();

    Reference() {
        for (int[][] rows : odds) {
            for (int[] row : rows) {
                row[0] = 12;
            }
        }
    }

    private boolean isCause(int n) {
        return n >= 1 && n <= priors.size();
    }

    private boolean isTest(int n) {
        return n >= 1 && n <= costs.size();
    }

    int fault(long up, long down) {
        if (!(0 <= up && up <= down) || !(1 <= down && down <= 10)) {
            return -2;
        }
        if (members.stream().filter(m -> m == null).count() == 8 || priors.size() == 12) {
            return -4;
        }
        priors.add(Fraction.of(up, down));
        members.add(null);
        return priors.size();
    }

    int pair(int a, int b) {
        for (int n : new int[] {a, b}) {
            if (!isCause(n) || members.get(n - 1) != null) {
                return -1;
            }
        }
        if (a == b) {
            return -2;
        }
        int[] both = {Math.min(a, b), Math.max(a, b)};
        if (members.stream().anyMatch(m -> Arrays.equals(m, both))) {
            return -3;
        }
        if (priors.size() == 12) {
            return -4;
        }
        priors.add(priors.get(a - 1).times(priors.get(b - 1)));
        members.add(both);
        return priors.size();
    }

    int test(long cost) {
        if (cost < 0 || cost > 400) {
            return -2;
        }
        if (costs.size() == 5) {
            return -4;
        }
        costs.add((int) cost);
        open = Arrays.copyOf(open, costs.size());
        open[costs.size() - 1] = -1;
        return costs.size();
    }

    int odds(int test, int cause, int answer, long up, long down) {
        if (!isTest(test) || !isCause(cause)) {
            return -1;
        }
        if (answer < 0 || answer > 2 || down < 1 || 12 % down != 0 || up < 0 || up > down) {
            return -2;
        }
        int[] row = odds[test - 1][cause - 1].clone();
        row[answer] = (int) (up * 12 / down);
        int sum = row[0] + row[1] + row[2];
        if (sum > 12) {
            return -2;
        }
        if (open[test - 1] >= 0) {
            return -3;
        }
        odds[test - 1][cause - 1] = row;
        return sum;
    }

    private boolean reaches(int from, int to) {
        for (int t = 0; t < costs.size(); t++) {
            if (needs[from][t] && (t == to || reaches(t, to))) {
                return true;
            }
        }
        return false;
    }

    int needs(int test, int other) {
        if (!isTest(test) || !isTest(other)) {
            return -1;
        }
        if (test == other) {
            return -2;
        }
        if (reaches(other - 1, test - 1)) {
            return -3;
        }
        needs[test - 1][other - 1] = true;
        int n = 0;
        for (boolean need : needs[test - 1]) {
            n += need ? 1 : 0;
        }
        return n;
    }

    private Fraction weight(int cause, int[] at) {
        Fraction w = priors.get(cause).times(Fraction.of(Math.min(5, learned[cause + 1]) + 1, 1));
        for (int t = 0; t < at.length; t++) {
            if (at[t] >= 0) {
                w = w.times(Fraction.of(odds[t][cause][at[t]], 12));
            }
        }
        return w;
    }

    private Fraction weight(int[] at) {
        Fraction sum = Fraction.ZERO;
        for (int c = 0; c < priors.size(); c++) {
            sum = sum.plus(weight(c, at));
        }
        return sum;
    }

    private Fraction greatest(int[] at) {
        Fraction most = Fraction.ZERO;
        for (int c = 0; c < priors.size(); c++) {
            Fraction w = weight(c, at);
            most = w.compareTo(most) > 0 ? w : most;
        }
        return most;
    }

    private List<Integer> left(int[] at) {
        List<Integer> found = new ArrayList<>();
        for (int c = 0; c < priors.size(); c++) {
            if (weight(c, at).compareTo(Fraction.ZERO) > 0) {
                found.add(c);
            }
        }
        return found;
    }

    private boolean needsMet(int test, int[] at) {
        for (int t = 0; t < at.length; t++) {
            if (needs[test][t] && at[t] < 0) {
                return false;
            }
        }
        return true;
    }

    private List<Integer> usable(int[] at) {
        List<Integer> found = new ArrayList<>();
        List<Integer> left = left(at);
        for (int t = 0; t < at.length; t++) {
            if (at[t] < 0 && needsMet(t, at) && differs(t, left)) {
                found.add(t);
            }
        }
        return found;
    }

    private boolean differs(int test, List<Integer> left) {
        for (int a = 0; a < 3; a++) {
            for (int c : left) {
                for (int d : left) {
                    if (odds[test][c][a] != odds[test][d][a]) {
                        return true;
                    }
                }
            }
        }
        return false;
    }

    private static int[] with(int[] at, int test, int answer) {
        int[] more = at.clone();
        more[test] = answer;
        return more;
    }

    private Sub build(int[] at) {
        Sub made = new Sub();
        made.left = left(at).size();
        Fraction whole = weight(at);
        made.empty = whole.equals(Fraction.ZERO);
        List<Integer> usable = usable(at);
        if (made.left < 2 || usable.isEmpty()) {
            made.value = whole.times(Fraction.of(300L * Math.max(0, made.left - 1), 1));
            return made;
        }
        for (int t : usable) {
            if (costs.get(t) == 0) {
                usable = List.of(t);
                break;
            }
        }
        for (int t : usable) {
            Sub[] behind = new Sub[3];
            Fraction sum = whole.times(Fraction.of(costs.get(t), 1));
            for (int a = 0; a < 3; a++) {
                behind[a] = build(with(at, t, a));
                sum = sum.plus(behind[a].value);
            }
            if (made.test < 0 || sum.compareTo(made.value) < 0) {
                made.test = t;
                made.value = sum;
                System.arraycopy(behind, 0, made.behind, 0, 3);
            }
        }
        return made;
    }

    private void list(Sub sub, int answer, List<Node> into) {
        if (sub.empty) {
            return;
        }
        into.add(new Node(sub.test + 1, sub.left, answer));
        for (int a = 0; a < 3 && sub.test >= 0; a++) {
            list(sub.behind[a], a, into);
        }
    }

    private int oneStep() {
        List<Integer> usable = usable(open);
        int best = -1;
        Fraction most = null;
        for (int t : usable) {
            if (costs.get(t) == 0) {
                return t + 1;
            }
        }
        for (int t : usable) {
            Fraction gain = Fraction.ZERO.minus(greatest(open));
            for (int a = 0; a < 3; a++) {
                gain = gain.plus(greatest(with(open, t, a)));
            }
            Fraction rate = gain.over(Fraction.of(costs.get(t), 1));
            if (best < 0 || rate.compareTo(most) > 0) {
                best = t;
                most = rate;
            }
        }
        return best + 1;
    }

    int next(long steps) {
        if (steps < 0) {
            return -2;
        }
        long all = 1;
        for (int a : open) {
            all *= a < 0 ? 4 : 1;
        }
        exact = all <= steps;
        nodes = new ArrayList<>();
        told = -1;
        if (!exact) {
            return oneStep();
        }
        Sub tree = build(open);
        list(tree, -1, nodes);
        Fraction whole = weight(open);
        if (!tree.empty) {
            Fraction each = tree.value.times(Fraction.of(1000, 1)).over(whole);
            told = each.up().divide(each.down()).longValueExact();
        }
        return tree.test + 1;
    }

    int answer(int test, int a) {
        if (!isTest(test)) {
            return -1;
        }
        if (a < 0 || a > 2) {
            return -2;
        }
        if (open[test - 1] >= 0 || !needsMet(test - 1, open)) {
            return -3;
        }
        open[test - 1] = a;
        return left(open).size();
    }

    /** The answer of odd(), or null where it throws. */
    Long odd(int cause, int side) {
        if (!isCause(cause)) {
            return -1L;
        }
        Fraction whole = weight(open);
        if (whole.equals(Fraction.ZERO)) {
            return null;
        }
        Fraction share = weight(cause - 1, open).over(whole);
        return (side == 0 ? share.up() : share.down()).longValueExact();
    }

    boolean exact() {
        return exact;
    }

    long cost() {
        return told;
    }

    int learn(int cause) {
        if (cause != 0 && !isCause(cause)) {
            return -1;
        }
        Arrays.fill(open, -1);
        return ++learned[cause];
    }

    int tree(int i, int what) {
        int kept = Math.min(300, nodes.size());
        if (i == -1 && what == 0) {
            return kept;
        }
        if (i < 0 || i >= kept) {
            return -1;
        }
        Node node = nodes.get(i);
        return what == 0 ? node.test() : what == 1 ? node.left() : what == 2 ? node.answer() : -2;
    }

    int never(int answer) {
        if (answer < 0 || answer > 2) {
            return -2;
        }
        int found = 0;
        for (int t = 0; t < costs.size(); t++) {
            boolean ever = false;
            for (int c = 0; c < priors.size(); c++) {
                ever |= odds[t][c][answer] > 0;
            }
            found += ever ? 0 : 1;
        }
        return found;
    }
}
