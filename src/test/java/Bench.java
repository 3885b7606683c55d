/** A guide to be tested, and the calls with which most tests begin. */
abstract class Bench {
    final Check check = new Check();
    GuideSearch x = new GuideSearch();

    void fresh() {
        x = new GuideSearch();
    }

    void faults(int count, long up, long down) {
        for (int i = 0; i < count; i++) {
            x.fault(up, down);
        }
    }

    void tests(int count, long cost) {
        for (int i = 0; i < count; i++) {
            x.test(cost);
        }
    }

    /** Two faults of 1 / 2 each, and nothing else. */
    void twoFaults() {
        fresh();
        faults(2, 1, 2);
    }

    /** Eight faults of 1 / 2 each, 1 .. 8, and four pairs, 9 .. 12. */
    void twelveCauses() {
        fresh();
        faults(8, 1, 2);
        for (int a = 1; a <= 4; a++) {
            x.pair(a, a + 4);
        }
    }

    /** All odds of a test for a cause, in twelfths. */
    void row(int test, int cause, int zero, int one, int two) {
        for (int a = 0; a < 3; a++) {
            x.odds(test, cause, a, 0, 1);
        }
        x.odds(test, cause, 0, zero, 12);
        x.odds(test, cause, 1, one, 12);
        x.odds(test, cause, 2, two, 12);
    }

    /** A new test that tells one cause, by its answer 1, from all others. */
    int telling(int cause, long cost) {
        int test = x.test(cost);
        row(test, cause, 0, 12, 0);
        return test;
    }

    /** The next test, by the tree and by one step; there is a test without an answer. */
    void dueNext(String call, int want) {
        check.due(call + ", by the tree", x.next(1024), want);
        check.due(call + ", the tree was made", x.exact(), true);
        check.due(call + ", by one step", x.next(0), want);
        check.due(call + ", one step was made", x.exact(), false);
    }

    void node(int i, int test, int left, int answer) {
        check.due("13 test of " + i, x.tree(i, 0), test);
        check.due("13 left at " + i, x.tree(i, 1), left);
        check.due("13 answer of " + i, x.tree(i, 2), answer);
    }
}
