/** Each promise of the document: ordinary inputs, the edges that it names, wrong inputs. */
public final class PromisesTest extends Bench {
    public static void main(String[] args) {
        PromisesTest test = new PromisesTest();
        test.newObject();
        test.fault();
        test.faultRoom();
        test.test();
        test.odds();
        test.needs();
        test.nextByTree();
        test.nextByFreeTest();
        test.nextByOneStep();
        test.nextAtTheEnd();
        test.answer();
        test.odd();
        test.exact();
        test.cost();
        test.greatestCost();
        test.pair();
        test.learn();
        test.tree();
        test.fullTree();
        test.never();
        test.check.end();
    }

    private void newObject() {
        fresh();
        check.due("1 exact", x.exact(), false);
        check.due("1 cost", x.cost(), -1);
        check.due("1 tree", x.tree(-1, 0), 0);
        check.due("1 tree(0, 0)", x.tree(0, 0), -1);
        check.due("1 next", x.next(1), 0);
        check.due("1 odds", x.odds(1, 1, 0, 1, 1), -1);
        check.due("1 answer", x.answer(1, 0), -1);
        check.due("1 answer of 0", x.answer(0, 0), -1);
        check.due("1 learn", x.learn(1), -1);
        check.due("1 pair", x.pair(1, 2), -1);
        check.due("1 never", x.never(0), 0);
        check.dueNoThrow("1 odd", x, 1, 0, -1);
        check.due("1 first fault", x.fault(1, 1), 1);
        check.due("1 first test", x.test(1), 1);
        check.due("1 the case has no answers", x.answer(1, 0), 1);
    }

    private void fault() {
        fresh();
        check.due("2 down 0", x.fault(0, 0), -2);
        check.due("2 down -1", x.fault(-1, -1), -2);
        check.due("2 down 11", x.fault(1, 11), -2);
        check.due("2 up above down", x.fault(3, 2), -2);
        check.due("2 up -1", x.fault(-1, 2), -2);
        check.due("2 wide", x.fault((1L << 32) + 1, (1L << 32) + 2), -2);
        check.due("2 up 0", x.fault(0, 10), 1);
        check.due("2 up as down", x.fault(10, 10), 2);
        check.due("2 thirds", x.fault(2, 3), 3);
        check.due("2 sevenths", x.fault(3, 7), 4);
        check.dueOdd("2 nothing", x, 1, 0, 1);
        check.dueOdd("2 one of 1 + 2/3 + 3/7", x, 2, 21, 44);
        check.dueOdd("2 thirds of it", x, 3, 7, 22);
    }

    private void faultRoom() {
        fresh();
        for (int i = 1; i <= 8; i++) {
            check.due("2 fault " + i, x.fault(1, i), i);
        }
        check.due("2 a ninth", x.fault(1, 1), -4);
        check.due("2 a ninth outside a range", x.fault(1, 0), -2);
        fresh();
        for (int i = 1; i <= 6; i++) {
            x.fault(1, 2);
        }
        for (int i = 2; i <= 6; i++) {
            check.due("2 pair " + i, x.pair(1, i), 5 + i);
        }
        check.due("2 fault 7 behind the pairs", x.fault(1, 2), 12);
        check.due("2 a thirteenth cause", x.fault(1, 2), -4);
        check.due("11 a thirteenth cause", x.pair(2, 12), -4);
    }

    private void test() {
        fresh();
        check.due("3 -1", x.test(-1), -2);
        check.due("3 401", x.test(401), -2);
        check.due("3 wide", x.test(1L << 32), -2);
        check.due("3 0", x.test(0), 1);
        check.due("3 400", x.test(400), 2);
        x.test(7);
        x.test(7);
        check.due("3 fifth", x.test(7), 5);
        check.due("3 sixth", x.test(7), -4);
        check.due("3 sixth outside a range", x.test(401), -2);
    }

    private void odds() {
        twoFaults();
        x.test(1);
        check.due("4 test 0", x.odds(0, 1, 0, 1, 1), -1);
        check.due("4 test 2", x.odds(2, 1, 0, 1, 1), -1);
        check.due("4 cause 0", x.odds(1, 0, 0, 1, 1), -1);
        check.due("4 cause 3", x.odds(1, 3, 9, 1, 1), -1);
        check.due("4 answer -1", x.odds(1, 1, -1, 0, 1), -2);
        check.due("4 answer 3", x.odds(1, 1, 3, 0, 1), -2);
        check.due("4 down 0", x.odds(1, 1, 0, 0, 0), -2);
        check.due("4 down -1", x.odds(1, 1, 0, -1, -1), -2);
        check.due("4 down 5", x.odds(1, 1, 0, 1, 5), -2);
        check.due("4 down 24", x.odds(1, 1, 0, 1, 24), -2);
        check.due("4 up -1", x.odds(1, 1, 0, -1, 2), -2);
        check.due("4 up above down", x.odds(1, 1, 0, 3, 2), -2);
        check.due("4 more than 12", x.odds(1, 1, 1, 1, 12), -2);
        check.due("4 12 again", x.odds(1, 1, 0, 12, 12), 12);
        check.due("4 a half", x.odds(1, 1, 0, 1, 2), 6);
        check.due("4 a third more", x.odds(1, 1, 1, 1, 3), 10);
        check.due("4 a quarter more is too much", x.odds(1, 1, 2, 1, 4), -2);
        check.due("4 a sixth more", x.odds(1, 1, 2, 1, 6), 12);
        check.due("4 the third anew", x.odds(1, 1, 1, 1, 4), 11);
        x.answer(1, 2);
        check.dueOdd("4 only cause 1 answers 2", x, 1, 1, 1);
        check.due("4 answered", x.odds(1, 1, 2, 0, 1), -3);
        check.due("4 answered, other answer", x.odds(1, 2, 0, 0, 1), -3);
        check.due("4 answered, too much", x.odds(1, 1, 0, 1, 1), -2);
        x.learn(0);
        check.due("4 in the next case", x.odds(1, 1, 2, 0, 1), 9);
    }

    private void needs() {
        fresh();
        for (int i = 0; i < 5; i++) {
            x.test(1);
        }
        check.due("5 test 0", x.needs(0, 1), -1);
        check.due("5 test 6", x.needs(6, 6), -1);
        check.due("5 other 6", x.needs(1, 6), -1);
        check.due("5 one", x.needs(5, 5), -2);
        check.due("5 first", x.needs(5, 4), 1);
        check.due("5 again", x.needs(5, 4), 1);
        check.due("5 back", x.needs(4, 5), -3);
        check.due("5 chain", x.needs(4, 3), 1);
        check.due("5 chain", x.needs(2, 1), 1);
        check.due("5 chain", x.needs(3, 2), 1);
        check.due("5 in between", x.needs(1, 5), -3);
        check.due("5 in between", x.needs(2, 4), -3);
        check.due("5 two", x.needs(5, 1), 2);
        check.due("5 not met", x.answer(2, 0), -3);
        x.answer(1, 0);
        check.due("5 met", x.answer(2, 0), 0);
        check.due("5 one of two met", x.answer(5, 0), -3);
        fresh();
        for (int i = 0; i < 5; i++) {
            x.test(1);
        }
        x.needs(1, 5);
        x.needs(5, 2);
        check.due("5 the fifth in between", x.needs(2, 1), -3);
        x.answer(2, 0);
        check.due("5 the fifth is needed", x.answer(1, 0), -3);
        x.answer(5, 0);
        check.due("5 the fifth has an answer", x.answer(1, 0), 0);
    }

    private void nextByTree() {
        twoFaults();
        check.due("6 below 0", x.next(-1), -2);
        check.due("6 far below 0", x.next(Long.MIN_VALUE), -2);
        telling(2, 400);
        check.due("6 a test is made though the end would cost less", x.next(4), 1);
        telling(2, 400);
        check.due("6 of equal ones the first", x.next(16), 1);
        telling(2, 399);
        check.due("6 the least sum", x.next(Long.MAX_VALUE), 3);
        x.needs(3, 1);
        check.due("6 not one that needs another", x.next(64), 1);
        x.answer(1, 0);
        check.due("6 one is left", x.next(64), 0);
    }

    private void nextByFreeTest() {
        fresh();
        x.fault(1, 2);
        x.fault(1, 4);
        x.fault(1, 4);
        int one = telling(2, 5);
        int free = x.test(0);
        check.due("6 a free test that tells nothing", x.next(16), one);
        check.due("6 likewise by one step", x.next(15), one);
        row(free, 3, 11, 1, 0);
        check.due("6 a free test comes first", x.next(16), free);
        check.due("6 likewise by one step", x.next(15), free);
        int other = telling(2, 0);
        check.due("6 the first of the free ones", x.next(64), free);
        x.needs(free, other);
        check.due("6 the first usable free one", x.next(64), other);
    }

    private void nextByOneStep() {
        twoFaults();
        telling(2, 10);
        telling(2, 10);
        check.due("6 equal gains over costs", x.next(0), 1);
        telling(2, 9);
        check.due("6 the same gain for less", x.next(63), 3);
        row(3, 2, 6, 6, 0);
        check.due("6 half the gain for nearly as much", x.next(63), 1);
        x.answer(1, 0);
        check.due("6 nothing to tell apart", x.next(15), 0);
        twoFaults();
        for (int cost = 10; cost <= 100; cost += 90) {
            int test = x.test(cost);
            row(test, 1, 1, 0, 0);
            row(test, 2, 0, 1, 0);
        }
        check.due("6 a loss is the less for the greater cost", x.next(0), 2);
    }

    private void nextAtTheEnd() {
        twoFaults();
        x.fault(0, 1);
        x.test(1);
        row(1, 3, 0, 12, 0);
        check.due("6 only a cause with no prior has other odds", x.next(4), 0);
        check.due("10 two left at an end", x.cost(), 300000);
        check.due("13 its node", x.tree(0, 1), 2);
        check.due("6 likewise by one step", x.next(3), 0);
        row(1, 2, 12, 0, 0);
        check.due("6 same odds", x.next(4), 0);
        row(1, 2, 11, 0, 0);
        check.due("6 other odds for answer 0", x.next(4), 1);
        row(1, 2, 0, 0, 12);
        check.due("6 other odds for answer 2", x.next(4), 1);
    }

    private void answer() {
        twoFaults();
        telling(2, 1);
        telling(2, 1);
        x.test(1);
        check.due("7 test 0", x.answer(0, 0), -1);
        check.due("7 test 4", x.answer(4, 9), -1);
        check.due("7 answer -1", x.answer(1, -1), -2);
        check.due("7 answer 3", x.answer(1, 3), -2);
        check.due("7 not usable", x.answer(3, 0), 2);
        check.due("7 has one", x.answer(3, 0), -3);
        check.due("7 has one, outside a range", x.answer(3, 3), -2);
        check.due("7 one left", x.answer(1, 1), 1);
        check.due("7 none left", x.answer(2, 0), 0);
        x.needs(3, 1);
        x.learn(0);
        check.due("7 a need without an answer", x.answer(3, 0), -3);
        check.due("7 the need", x.answer(1, 0), 1);
        check.due("7 the need has one", x.answer(3, 0), 1);
        check.due("7 a later fault has answer 0", x.fault(1, 2), 3);
        check.dueOdd("7 it is left", x, 3, 1, 2);
        check.due("7 a later test", x.test(1), 4);
        check.due("7 which has no answer", x.answer(4, 0), 2);
    }

    private void odd() {
        fresh();
        x.fault(0, 1);
        check.dueThrow("8 weight 0", x, 1, 0);
        check.dueThrow("8 weight 0, below", x, 1, 1);
        check.dueNoThrow("8 no cause, weight 0", x, 2, 0, -1);
        check.dueNoThrow("8 cause 0", x, 0, 0, -1);
        x.fault(1, 3);
        check.dueOdd("8 nothing", x, 1, 0, 1);
        check.dueOdd("8 all", x, 2, 1, 1);
        x.fault(2, 7);
        check.dueOdd("8 1/3 of 13/21", x, 2, 7, 13);
        check.dueNoThrow("8 side -1", x, 2, -1, 13);
        check.dueNoThrow("8 side 2", x, 2, 2, 13);
        x.test(1);
        row(1, 3, 5, 7, 0);
        x.answer(1, 0);
        check.dueOdd("8 1/3 and 10/84", x, 2, 14, 19);
        x.test(1);
        x.answer(2, 2);
        check.dueThrow("8 none left", x, 2, 0);
        check.dueNoThrow("8 no cause, none left", x, 4, 0, -1);
    }

    private void exact() {
        fresh();
        check.due("9 before one", x.exact(), false);
        x.next(0);
        check.due("9 no test, 0 steps", x.exact(), false);
        x.next(1);
        check.due("9 no test, 1 step, at an end", x.exact(), true);
        x.next(-1);
        check.due("9 a refused one", x.exact(), true);
        for (int n = 1; n <= 5; n++) {
            x.test(1);
            x.next((1L << 2 * n) - 1);
            check.due("9 too few steps for " + n, x.exact(), false);
            x.next(1L << 2 * n);
            check.due("9 enough steps for " + n, x.exact(), true);
        }
        x.answer(1, 0);
        x.next(255);
        check.due("9 too few steps for the other four", x.exact(), false);
        x.next(256);
        check.due("9 enough for the other four", x.exact(), true);
        x.learn(0);
        check.due("9 learned", x.exact(), true);
    }

    private void cost() {
        twoFaults();
        check.due("10 before one", x.cost(), -1);
        telling(2, 7);
        x.next(4);
        check.due("10 by a tree", x.cost(), 7000);
        x.next(-1);
        check.due("10 a refused one", x.cost(), 7000);
        x.answer(1, 0);
        check.due("10 an answer more", x.cost(), 7000);
        x.learn(1);
        check.due("10 learned", x.cost(), 7000);
        x.next(3);
        check.due("10 by one step", x.cost(), -1);
        x.next(4);
        x.answer(1, 2);
        x.next(4);
        check.due("10 weight 0", x.cost(), -1);
        check.due("13 weight 0", x.tree(-1, 0), 0);
        fresh();
        x.fault(1, 3);
        x.fault(1, 4);
        x.test(7);
        row(1, 2, 5, 0, 0);
        x.next(4);
        // 7 + 300 * (1/3 + 5/48) / (7/12) = 232
        check.due("10 answers that are missing", x.cost(), 232000);
        row(1, 2, 5, 3, 0);
        row(1, 1, 11, 1, 0);
        x.next(4);
        // 7 + 300 * (11/36 + 5/48 + 1/36 + 1/16) / (7/12) = 264 + 1/7
        check.due("10 whole", x.cost(), 264142);
    }

    private void greatestCost() {
        fresh();
        for (int i = 0; i < 8; i++) {
            x.fault(1, 1);
        }
        for (int i = 1; i <= 4; i++) {
            x.pair(i, 5);
        }
        for (int cause = 1; cause <= 12; cause++) {
            for (int n = 0; n < 6; n++) {
                x.learn(cause);
            }
        }
        for (int test = 1; test <= 5; test++) {
            x.test(400);
            row(test, 1, 11, 0, 0);
        }
        check.due("10 next, far out", x.next(1024), 1);
        // 400 (W0 + .. + W4) + 3300 W5, with Wk = 66 + 6 (11/12)^k, for each of W0
        check.due("10 far out", x.cost(), 5177429);
        for (int test = 1; test <= 5; test++) {
            check.due("7 all left", x.answer(test, 0), 12);
        }
        check.dueOdd("8 far out", x, 1, 14641, 263473);
    }

    private void pair() {
        fresh();
        x.fault(1, 2);
        x.fault(2, 3);
        check.due("11 fault 0", x.pair(0, 1), -1);
        check.due("11 fault 3", x.pair(1, 3), -1);
        check.due("11 unknown ones that are one", x.pair(3, 3), -1);
        check.due("11 one", x.pair(2, 2), -2);
        check.due("11 a pair", x.pair(2, 1), 3);
        check.due("11 again", x.pair(2, 1), -3);
        check.due("11 the other way", x.pair(1, 2), -3);
        check.due("11 a pair is no fault", x.pair(1, 3), -1);
        check.due("11 a pair is no fault", x.pair(3, 3), -1);
        check.dueOdd("11 1/3 of 3/2", x, 3, 2, 9);
        x.fault(1, 10);
        check.due("11 a fault behind a pair", x.pair(4, 1), 5);
        x.learn(1);
        check.dueOdd("11 a learned fault leaves its pairs alone", x, 3, 20, 129);
        for (int i = 6; i <= 9; i++) {
            x.fault(0, 1);
        }
        x.pair(6, 7);
        x.pair(6, 8);
        check.due("11 the twelfth", x.pair(6, 9), 12);
        check.due("11 the thirteenth", x.pair(7, 8), -4);
        check.due("11 the twelfth again", x.pair(9, 6), -3);
        check.due("11 the thirteenth, there is one", x.pair(7, 6), -3);
    }

    private void learn() {
        fresh();
        check.due("12 none, without causes", x.learn(0), 1);
        x.fault(1, 2);
        x.fault(1, 2);
        x.pair(1, 2);
        x.test(1);
        x.answer(1, 2);
        check.due("12 cause -1", x.learn(-1), -1);
        check.due("12 cause 4", x.learn(4), -1);
        check.due("12 a refused one closes nothing", x.answer(1, 2), -3);
        check.due("12 none of them", x.learn(0), 2);
        check.due("12 the answers are gone", x.answer(1, 0), 3);
        x.learn(0);
        check.dueOdd("12 none of them changes no prior", x, 1, 2, 5);
        check.due("12 once", x.learn(1), 1);
        check.dueOdd("12 twice the prior", x, 1, 4, 7);
        check.due("12 a pair", x.learn(3), 1);
        check.dueOdd("12 twice the pair's prior", x, 3, 1, 4);
        for (int n = 2; n <= 5; n++) {
            check.due("12 times", x.learn(1), n);
        }
        check.dueOdd("12 six times the prior", x, 1, 3, 4);
        check.due("12 beyond 5", x.learn(1), 6);
        check.dueOdd("12 still six times", x, 1, 3, 4);
        for (int n = 4; n <= 9; n++) {
            check.due("12 none of them, beyond 5", x.learn(0), n);
        }
    }

    private void tree() {
        fresh();
        x.fault(1, 2);
        x.fault(1, 4);
        x.fault(1, 4);
        x.test(3);
        row(1, 1, 0, 0, 12);
        x.test(400);
        row(2, 3, 0, 6, 0);
        check.due("13 next", x.next(16), 1);
        check.due("13 nodes", x.tree(-1, 0), 5);
        node(0, 1, 3, -1);
        node(1, 2, 2, 0);
        node(2, 0, 1, 0);
        node(3, 0, 1, 1);
        node(4, 0, 1, 2);
        check.due("13 node 5", x.tree(5, 0), -1);
        check.due("13 node 5, no such what", x.tree(5, 3), -1);
        check.due("13 node -1", x.tree(-1, 1), -1);
        check.due("13 node -2", x.tree(-2, 0), -1);
        check.due("13 what 3", x.tree(4, 3), -2);
        check.due("13 what -1", x.tree(0, -1), -2);
        x.next(-1);
        x.answer(1, 2);
        x.learn(1);
        check.due("13 stays", x.tree(-1, 0), 5);
        node(1, 2, 2, 0);
        x.next(15);
        check.due("13 one step makes none", x.tree(-1, 0), 0);
        check.due("13 one step makes none", x.tree(0, 0), -1);
    }

    private void fullTree() {
        twoFaults();
        for (int test = 1; test <= 5; test++) {
            x.test(1);
            row(test, 1, 4, 4, 4);
            row(test, 2, 3, 5, 4);
        }
        x.next(1024);
        check.due("13 at most 300", x.tree(-1, 0), 300);
        node(0, 1, 2, -1);
        node(5, 0, 2, 0);
        check.due("13 the last one", x.tree(299, 1), 2);
        check.due("13 one more", x.tree(300, 0), -1);
        x.answer(1, 0);
        x.next(1024);
        check.due("13 all 121", x.tree(-1, 0), 121);
        node(120, 0, 2, 2);
    }

    private void never() {
        fresh();
        x.test(1);
        x.test(1);
        check.due("14 answer -1", x.never(-1), -2);
        check.due("14 answer 3", x.never(3), -2);
        check.due("14 no cause", x.never(0), 2);
        x.fault(1, 2);
        check.due("14 answer 0", x.never(0), 0);
        check.due("14 answer 1", x.never(1), 2);
        x.fault(0, 1);
        row(2, 2, 11, 1, 0);
        check.due("14 a cause with no prior counts", x.never(1), 1);
        check.due("14 answer 2", x.never(2), 2);
        row(1, 1, 0, 0, 0);
        row(1, 2, 0, 0, 0);
        check.due("14 no answer at all", x.never(0), 1);
        x.answer(2, 2);
        check.due("14 nor is being left asked", x.never(1), 1);
    }
}
