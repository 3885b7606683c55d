/** The promises' ranges: just inside and just outside each, empty and full, a method for each. */
public final class EdgesTest extends Bench {
    private static final long WRAP = 1L << 32;
    private static final int[] NO_ANSWERS = {
        Integer.MIN_VALUE, -2, -1, 3, 4, 32, 256, Integer.MAX_VALUE};

    public static void main(String[] args) {
        EdgesTest test = new EdgesTest();
        test.newObject();
        test.faults();
        test.tests();
        test.odds();
        test.needs();
        test.next();
        test.answers();
        test.odd();
        test.exact();
        test.cost();
        test.pairs();
        test.learn();
        test.tree();
        test.never();
        test.check.end();
    }

    private void newObject() {
        noFaultsAtFirst();
        noTestsAtFirst();
        noAnswersAtFirst();
        objectsApart();
    }

    private void faults() {
        faultInside();
        faultOutside();
        faultOutsideByWrapAround();
        faultRoom();
    }

    private void tests() {
        testInside();
        testOutside();
        testRoom();
    }

    private void odds() {
        oddsOfATest();
        oddsOfACause();
        oddsOfAnAnswer();
        oddsDown();
        oddsUp();
        oddsTogether();
        oddsNotTogetherTwelve();
        oddsOfAnAnsweredTest();
    }

    private void needs() {
        needsOfATest();
        needsItself();
        needsCounted();
        needsBack();
        needsBackByThreeInBetween();
        needsByTwoWays();
        needsOfAnAnsweredTest();
    }

    private void next() {
        nextSteps();
        nextOfNothing();
        nextOfAFullGarage();
    }

    private void answers() {
        answerOfATest();
        answerInside();
        answerOutside();
        answerTwice();
        answerBeforeItsNeeds();
        answerOfATestThatIsNotUsable();
        answerWithNoneLeft();
    }

    private void odd() {
        oddOfACause();
        oddSides();
        oddOfNothingAndOfAll();
        oddWithoutWeight();
        oddBeyondAnInt();
    }

    private void exact() {
        exactBeforeNext();
        exactAtTheEnd();
        exactOfTheLast();
    }

    private void cost() {
        costBeforeNext();
        costWithoutTree();
        costWithoutWeight();
        costOfNothingToDo();
        costIsWhole();
        costOfTheLast();
    }

    private void pairs() {
        pairOfAFault();
        pairOfAPair();
        pairOfOne();
        pairAgain();
        pairRoom();
    }

    private void learn() {
        learnACause();
        learnNone();
        learnBeyondFive();
        learnEndsTheCase();
        learnLeavesTheLastNext();
    }

    private void tree() {
        treeBeforeNext();
        treeOfOneNode();
        treeWithoutWeight();
        treeInOrder();
        treeNumbers();
        treeWhats();
        treeOf299();
        treeOf300();
        treeOf301();
        treeOfTheLast();
    }

    private void never() {
        neverInside();
        neverOutside();
        neverWithoutTests();
        neverWithoutCauses();
        neverButForATwelfth();
    }

    private void noFaultsAtFirst() {
        fresh();
        check.due("1 no cause", x.learn(1), -1);
        check.due("1 no faults", x.pair(1, 2), -1);
        check.dueNoThrow("1 no odd", x, 1, 0, -1);
        check.due("1 the first fault", x.fault(1, 2), 1);
    }

    private void noTestsAtFirst() {
        fresh();
        x.fault(1, 2);
        check.due("1 no test", x.answer(1, 0), -1);
        check.due("1 no odds", x.odds(1, 1, 0, 1, 1), -1);
        check.due("1 no needs", x.needs(1, 2), -1);
        check.due("1 none is never", x.never(1), 0);
        check.due("1 the first test", x.test(1), 1);
    }

    private void noAnswersAtFirst() {
        twoFaults();
        for (int test = 1; test <= 5; test++) {
            x.test(1);
            check.due("1 no answer of " + test, x.odds(test, 1, 0, 1, 1), 12);
        }
        for (int test = 1; test <= 5; test++) {
            check.due("1 the first answer of " + test, x.answer(test, 0), 2);
        }
    }

    private void objectsApart() {
        twoFaults();
        telling(2, 1);
        x.next(4);
        x.answer(1, 1);
        GuideSearch other = new GuideSearch();
        check.due("1 the other has no test", other.answer(1, 0), -1);
        check.due("1 nor a cause", other.learn(1), -1);
        check.due("1 nor a tree", other.tree(-1, 0), 0);
        check.due("1 nor a cost", other.cost(), -1);
        check.due("1 nor was its next exact", other.exact(), false);
        check.dueOdd("1 the first one has its answer still", x, 2, 1, 1);
    }

    private void faultInside() {
        long[][] inside = {
            {0, 1}, {1, 1}, {0, 10}, {1, 10}, {9, 10}, {10, 10}, {1, 2}, {9, 9}};
        fresh();
        for (int i = 0; i < inside.length; i++) {
            check.due("2 inside", x.fault(inside[i][0], inside[i][1]), i + 1);
        }
    }

    private void faultOutside() {
        long[][] outside = {
            {-1, 1}, {2, 1}, {-1, 10}, {11, 10}, {3, 2}, {0, 0}, {1, 0}, {-1, 0}, {0, -1},
            {-1, -1}, {-2, -1}, {0, 11}, {1, 11}, {11, 11}, {10, 11}, {12, 11}};
        fresh();
        for (long[] pair : outside) {
            check.due("2 " + pair[0] + " / " + pair[1], x.fault(pair[0], pair[1]), -2);
        }
        check.due("2 none of them was taken", x.fault(1, 10), 1);
    }

    private void faultOutsideByWrapAround() {
        long[][] outside = {
            {WRAP, WRAP + 1}, {WRAP + 1, 10}, {1, WRAP + 10}, {0, WRAP + 1}, {-WRAP, 1},
            {-WRAP + 1, 1}, {Long.MIN_VALUE, 1}, {Long.MAX_VALUE, 10}, {0, Long.MIN_VALUE},
            {Long.MIN_VALUE, Long.MIN_VALUE}, {1, Long.MAX_VALUE},
            {Long.MAX_VALUE, Long.MAX_VALUE}, {Long.MIN_VALUE, Long.MAX_VALUE}};
        fresh();
        for (long[] pair : outside) {
            check.due("2 " + pair[0] + " / " + pair[1], x.fault(pair[0], pair[1]), -2);
        }
        check.due("2 none of them was taken", x.learn(1), -1);
    }

    private void faultRoom() {
        fresh();
        faults(7, 1, 2);
        check.due("2 the eighth", x.fault(1, 2), 8);
        check.due("2 a ninth", x.fault(1, 2), -4);
        fresh();
        faults(5, 1, 2);
        for (int b = 2; b <= 5; b++) {
            x.pair(1, b);
        }
        x.pair(2, 3);
        x.pair(2, 4);
        check.due("2 the twelfth cause, the sixth fault", x.fault(1, 2), 12);
        check.due("2 a thirteenth cause, the seventh fault", x.fault(1, 2), -4);
    }

    private void testInside() {
        long[] inside = {0, 1, 399, 400};
        fresh();
        for (int i = 0; i < inside.length; i++) {
            check.due("3 " + inside[i], x.test(inside[i]), i + 1);
        }
        twoFaults();
        telling(2, 400);
        x.next(4);
        check.due("3 a cost of 400 counts 400", x.cost(), 400000);
    }

    private void testOutside() {
        long[] outside = {
            -1, 401, -400, Long.MIN_VALUE, Long.MAX_VALUE, WRAP, WRAP + 400, -WRAP, -WRAP + 1,
            Integer.MIN_VALUE, Integer.MAX_VALUE, 65536, 256 * 256 + 1};
        fresh();
        for (long cost : outside) {
            check.due("3 " + cost, x.test(cost), -2);
        }
        check.due("3 none of them was taken", x.answer(1, 0), -1);
    }

    private void testRoom() {
        fresh();
        tests(4, 0);
        check.due("3 the fifth", x.test(0), 5);
        check.due("3 a sixth", x.test(0), -4);
        check.due("3 a sixth for 400", x.test(400), -4);
        check.due("3 it is not there", x.needs(6, 1), -1);
    }

    private void oddsOfATest() {
        fresh();
        x.fault(1, 2);
        check.due("4 no test at all", x.odds(1, 1, 0, 1, 2), -1);
        tests(4, 1);
        int[] unknown = {Integer.MIN_VALUE, -1, 0, 5, 6, 33, 256 + 1, Integer.MAX_VALUE};
        for (int test : unknown) {
            check.due("4 test " + test, x.odds(test, 1, 0, 1, 2), -1);
        }
        check.due("4 the first", x.odds(1, 1, 0, 1, 2), 6);
        check.due("4 the fourth", x.odds(4, 1, 0, 1, 2), 6);
        x.test(1);
        check.due("4 the fifth, now", x.odds(5, 1, 0, 1, 2), 6);
    }

    private void oddsOfACause() {
        fresh();
        x.test(1);
        check.due("4 no cause at all", x.odds(1, 1, 0, 1, 2), -1);
        faults(2, 1, 2);
        int[] unknown = {Integer.MIN_VALUE, -1, 0, 3, 12, 13, 33, 256 + 1, Integer.MAX_VALUE};
        for (int cause : unknown) {
            check.due("4 cause " + cause, x.odds(1, cause, 0, 1, 2), -1);
        }
        check.due("4 the first", x.odds(1, 1, 0, 1, 2), 6);
        check.due("4 the second", x.odds(1, 2, 0, 1, 2), 6);
        x.pair(1, 2);
        check.due("4 the pair, now", x.odds(1, 3, 0, 1, 2), 6);
    }

    private void oddsOfAnAnswer() {
        twoFaults();
        x.test(1);
        for (int answer : NO_ANSWERS) {
            check.due("4 answer " + answer, x.odds(1, 1, answer, 0, 1), -2);
        }
        check.due("4 answer 0", x.odds(1, 1, 0, 0, 1), 0);
        check.due("4 answer 1", x.odds(1, 1, 1, 1, 4), 3);
        check.due("4 answer 2", x.odds(1, 1, 2, 1, 2), 9);
        check.due("4 which leaves answer 0 its own", x.odds(1, 1, 0, 1, 4), 12);
    }

    private void oddsDown() {
        long[] parts = {1, 2, 3, 4, 6, 12};
        long[] others = {
            -12, -6, -1, 0, 5, 7, 8, 9, 10, 11, 13, 24, 36, 120, WRAP + 1, WRAP + 12, -WRAP + 1,
            Long.MIN_VALUE, Long.MAX_VALUE};
        twoFaults();
        x.test(1);
        for (long down : parts) {
            check.due("4 0 / " + down, x.odds(1, 1, 0, 0, down), 0);
            check.due("4 1 / " + down, x.odds(1, 1, 0, 1, down), 12 / down);
            check.due("4 all of " + down, x.odds(1, 1, 0, down, down), 12);
        }
        for (long down : others) {
            check.due("4 0 / " + down, x.odds(1, 1, 0, 0, down), -2);
            check.due("4 1 / " + down, x.odds(1, 1, 0, 1, down), -2);
            check.due("4 all of " + down, x.odds(1, 1, 0, down, down), -2);
        }
    }

    private void oddsUp() {
        long[] outside = {
            -1, 7, 12, Long.MIN_VALUE, Long.MAX_VALUE, WRAP, WRAP + 1, -WRAP, -WRAP + 1};
        twoFaults();
        x.test(1);
        for (long up : outside) {
            check.due("4 " + up + " / 6", x.odds(1, 1, 0, up, 6), -2);
        }
        for (int up = 0; up <= 6; up++) {
            check.due("4 " + up + " / 6", x.odds(1, 1, 0, up, 6), 2 * up);
        }
        check.due("4 2 / 1", x.odds(1, 1, 0, 2, 1), -2);
        check.due("4 13 / 12", x.odds(1, 1, 0, 13, 12), -2);
    }

    private void oddsTogether() {
        for (int a = 0; a < 3; a++) {
            twoFaults();
            x.test(1);
            row(1, 1, 4, 4, 4);
            check.due("4 12 together stay 12", x.odds(1, 1, a, 1, 3), 12);
            check.due("4 13 together", x.odds(1, 1, a, 5, 12), -2);
            check.due("4 20 together", x.odds(1, 1, a, 1, 1), -2);
            check.due("4 11 together", x.odds(1, 1, a, 3, 12), 11);
            check.due("4 12 together again", x.odds(1, 1, a, 4, 12), 12);
            check.due("4 the other cause has its own", x.odds(1, 2, 0, 1, 1), 12);
        }
    }

    private void oddsNotTogetherTwelve() {
        twoFaults();
        x.test(1);
        check.due("4 none", x.odds(1, 1, 0, 0, 1), 0);
        check.due("4 none again", x.odds(1, 1, 2, 0, 12), 0);
        check.due("4 one", x.odds(1, 1, 1, 1, 12), 1);
        check.due("4 eleven", x.odds(1, 1, 2, 10, 12), 11);
        check.due("4 a case may have them", x.answer(1, 0), 1);
        check.dueOdd("4 the first is out by none", x, 1, 0, 1);
    }

    private void oddsOfAnAnsweredTest() {
        twoFaults();
        tests(2, 1);
        x.answer(1, 0);
        for (int cause = 1; cause <= 2; cause++) {
            for (int a = 0; a < 3; a++) {
                check.due("4 it has an answer", x.odds(1, cause, a, 0, 1), -3);
            }
        }
        check.due("4 though nothing would change", x.odds(1, 1, 0, 1, 1), -3);
        check.due("4 the other test has none", x.odds(2, 1, 0, 1, 2), 6);
        x.fault(1, 2);
        check.due("4 nor for a new cause", x.odds(1, 3, 0, 1, 2), -3);
        x.learn(0);
        check.due("4 in a new case", x.odds(1, 3, 0, 1, 2), 6);
    }

    private void needsOfATest() {
        int[] unknown = {Integer.MIN_VALUE, -1, 0, 4, 5, 6, 32, 33, 35, Integer.MAX_VALUE};
        fresh();
        tests(3, 1);
        for (int test : unknown) {
            check.due("5 test " + test, x.needs(test, 1), -1);
            check.due("5 other " + test, x.needs(1, test), -1);
            check.due("5 both " + test, x.needs(test, test), -1);
        }
        check.due("5 the first and the third", x.needs(1, 3), 1);
        x.test(1);
        check.due("5 the fourth, now", x.needs(1, 4), 2);
    }

    private void needsItself() {
        fresh();
        tests(5, 1);
        for (int test = 1; test <= 5; test++) {
            check.due("5 itself", x.needs(test, test), -2);
            check.due("5 it can be answered still", x.answer(test, 0), 0);
        }
    }

    private void needsCounted() {
        for (int test = 1; test <= 5; test++) {
            fresh();
            tests(5, 1);
            int count = 0;
            for (int other = 5; other >= 1; other--) {
                if (other != test) {
                    count++;
                    check.due("5 of " + test + ", " + other, x.needs(test, other), count);
                    check.due("5 twice", x.needs(test, other), count);
                }
            }
            check.due("5 four in all", count, 4);
        }
    }

    private void needsBack() {
        fresh();
        tests(3, 1);
        x.needs(1, 2);
        check.due("5 back", x.needs(2, 1), -3);
        check.due("5 the same way", x.needs(1, 2), 1);
        x.needs(2, 3);
        check.due("5 back by one in between", x.needs(3, 1), -3);
        check.due("5 back at once", x.needs(3, 2), -3);
        check.due("5 the first needs no more by that", x.needs(1, 3), 2);
        check.due("5 the third needs none: it can be answered", x.answer(3, 0), 0);
    }

    private void needsBackByThreeInBetween() {
        int[][] chains = {{1, 2, 3, 4, 5}, {5, 4, 3, 2, 1}, {3, 1, 5, 2, 4}, {2, 4, 1, 3, 5}};
        for (int[] chain : chains) {
            fresh();
            tests(5, 1);
            for (int i = 3; i >= 0; i--) {
                check.due("5 a chain", x.needs(chain[i], chain[i + 1]), 1);
            }
            for (int i = 0; i < 4; i++) {
                check.due("5 back from the chain's end", x.needs(chain[4], chain[i]), -3);
            }
            check.due("5 ahead", x.needs(chain[0], chain[4]), 2);
        }
    }

    private void needsByTwoWays() {
        fresh();
        tests(4, 1);
        x.needs(4, 2);
        x.needs(4, 3);
        x.needs(2, 1);
        check.due("5 two ways to one test are no ring", x.needs(3, 1), 1);
        check.due("5 nor is a third", x.needs(4, 1), 3);
        check.due("5 but back", x.needs(1, 4), -3);
        check.due("5 side by side", x.needs(2, 3), 2);
        check.due("5 and back", x.needs(3, 2), -3);
    }

    private void needsOfAnAnsweredTest() {
        twoFaults();
        tests(2, 1);
        x.answer(1, 0);
        check.due("5 a test with an answer may need", x.needs(1, 2), 1);
        check.due("5 its answer stays", x.answer(1, 0), -3);
        x.learn(0);
        check.due("5 the need stays too", x.answer(1, 0), -3);
    }

    private void nextSteps() {
        twoFaults();
        telling(2, 1);
        check.due("6 steps 0", x.next(0), 1);
        check.due("6 steps -1", x.next(-1), -2);
        check.due("6 the least steps", x.next(Long.MIN_VALUE), -2);
        check.due("6 -2^32", x.next(-WRAP), -2);
        check.due("6 -2^32 + 4", x.next(-WRAP + 4), -2);
        check.due("6 the most steps", x.next(Long.MAX_VALUE), 1);
    }

    private void nextOfNothing() {
        fresh();
        check.due("6 of nothing", x.next(0), 0);
        check.due("6 of nothing, by the tree", x.next(1), 0);
        check.due("6 of nothing, below 0", x.next(-1), -2);
        x.fault(1, 1);
        check.due("6 of one fault", x.next(1), 0);
        x.fault(1, 1);
        check.due("6 of two without a test", x.next(1), 0);
    }

    private void nextOfAFullGarage() {
        twelveCauses();
        for (int test = 1; test <= 5; test++) {
            x.test(400);
        }
        dueNext("6 five tests that tell nothing", 0);
        row(5, 12, 11, 1, 0);
        dueNext("6 the fifth tells of the twelfth", 5);
        row(4, 11, 0, 12, 0);
        row(4, 12, 0, 0, 12);
        dueNext("6 the fourth tells more", 4);
    }

    private void answerOfATest() {
        twoFaults();
        check.due("7 no test at all", x.answer(1, 0), -1);
        tests(4, 1);
        int[] unknown = {Integer.MIN_VALUE, -1, 0, 5, 6, 17, 33, Integer.MAX_VALUE};
        for (int test : unknown) {
            check.due("7 test " + test, x.answer(test, 0), -1);
        }
        check.due("7 the fourth", x.answer(4, 0), 2);
        x.test(1);
        check.due("7 the fifth, now", x.answer(5, 0), 2);
        check.due("7 the first", x.answer(1, 0), 2);
    }

    private void answerInside() {
        for (int a = 0; a < 3; a++) {
            fresh();
            faults(3, 1, 3);
            x.test(1);
            row(1, 1, 12, 0, 0);
            row(1, 2, 0, 6, 6);
            row(1, 3, 2, 4, 6);
            check.due("7 answer " + a, x.answer(1, a), 2);
            check.dueOdd("7 the third's share by " + a, x, 3, a == 0 ? 1 : a == 1 ? 2 : 1,
                    a == 0 ? 7 : a == 1 ? 5 : 2);
        }
    }

    private void answerOutside() {
        twoFaults();
        x.test(1);
        for (int a : NO_ANSWERS) {
            check.due("7 answer " + a, x.answer(1, a), -2);
        }
        check.due("7 none of them was taken", x.answer(1, 0), 2);
    }

    private void answerTwice() {
        for (int first = 0; first < 3; first++) {
            for (int second = 0; second < 3; second++) {
                twoFaults();
                x.test(1);
                x.answer(1, first);
                check.due("7 " + second + " behind " + first, x.answer(1, second), -3);
            }
        }
    }

    private void answerBeforeItsNeeds() {
        for (int test = 1; test <= 5; test++) {
            twoFaults();
            tests(5, 1);
            for (int other = 1; other <= 5; other++) {
                x.needs(test, other);
            }
            for (int other = 1; other <= 5; other++) {
                if (other != test) {
                    check.due("7 a need of " + test + " has none", x.answer(test, 0), -3);
                    check.due("7 the need itself", x.answer(other, 0), 2);
                }
            }
            check.due("7 all needs of " + test + " have one", x.answer(test, 0), 2);
        }
    }

    private void answerOfATestThatIsNotUsable() {
        fresh();
        tests(2, 0);
        check.due("7 without any cause", x.answer(1, 0), 0);
        x.fault(1, 1);
        check.due("7 with one", x.answer(2, 0), 1);
        twoFaults();
        x.test(400);
        check.due("7 that tells nothing", x.answer(1, 0), 2);
    }

    private void answerWithNoneLeft() {
        twoFaults();
        tests(3, 1);
        check.due("7 none is left", x.answer(1, 1), 0);
        check.due("7 none comes back", x.answer(2, 0), 0);
        check.due("7 nor is a test refused for it", x.answer(3, 2), 0);
        check.due("7 but for its answer", x.answer(3, 2), -3);
        check.due("7 nor is the next one", x.next(1), 0);
        x.learn(1);
        check.due("7 all are left in a new case", x.answer(2, 0), 2);
    }

    private void oddOfACause() {
        twoFaults();
        x.pair(1, 2);
        int[] unknown = {Integer.MIN_VALUE, -1, 0, 4, 12, 13, 33, Integer.MAX_VALUE};
        for (int cause : unknown) {
            check.dueNoThrow("8 above of " + cause, x, cause, 0, -1);
            check.dueNoThrow("8 below of " + cause, x, cause, 1, -1);
        }
        check.dueOdd("8 the first", x, 1, 2, 5);
        check.dueOdd("8 the third, a pair", x, 3, 1, 5);
    }

    private void oddSides() {
        int[] below = {1, 2, -1, 256, Integer.MIN_VALUE, Integer.MAX_VALUE};
        fresh();
        x.fault(2, 3);
        x.fault(2, 9);
        check.dueNoThrow("8 side 0", x, 1, 0, 3);
        for (int side : below) {
            check.dueNoThrow("8 side " + side, x, 1, side, 4);
        }
    }

    private void oddOfNothingAndOfAll() {
        fresh();
        x.fault(1, 10);
        check.dueOdd("8 the only one", x, 1, 1, 1);
        x.fault(0, 10);
        check.dueOdd("8 prior 0", x, 2, 0, 1);
        x.fault(10, 10);
        x.test(1);
        row(1, 3, 0, 0, 12);
        x.answer(1, 2);
        check.dueOdd("8 not left", x, 1, 0, 1);
        check.dueOdd("8 the only one left", x, 3, 1, 1);
    }

    private void oddWithoutWeight() {
        fresh();
        check.dueNoThrow("8 no cause, so none to throw for", x, 1, 0, -1);
        faults(2, 0, 1);
        check.dueThrow("8 priors of 0", x, 1, 0);
        check.dueThrow("8 priors of 0, below", x, 2, 7);
        check.dueNoThrow("8 no such cause, priors of 0", x, 3, 0, -1);
        x.fault(1, 10);
        check.dueOdd("8 a prior above 0", x, 1, 0, 1);
        x.test(1);
        x.answer(1, 1);
        check.dueThrow("8 none is left", x, 3, 0);
        check.dueThrow("8 none is left, below", x, 3, 1);
        check.dueNoThrow("8 no such cause, none is left", x, 0, 0, -1);
        x.learn(3);
        check.dueOdd("8 a new case", x, 3, 1, 1);
    }

    private void oddBeyondAnInt() {
        int[] twelfths = {11, 7, 5, 1, 12, 10, 9, 8, 11, 7, 5, 1};
        long[] above = {
            146105467200L, 15247310400L, 2205000000L, 705600L, 197522841600L, 79380000000L,
            37498476960L, 41617981440L, 20872209600L, 1317668800L, 310078125L, 127008L};
        long[] downs = {7, 7, 9, 9, 8, 8, 10, 5};
        fresh();
        for (long down : downs) {
            x.fault(1, down);
        }
        for (int a = 1; a < 8; a += 2) {
            x.pair(a, a + 1);
        }
        for (int test = 1; test <= 5; test++) {
            x.test(1);
            for (int cause = 1; cause <= 12; cause++) {
                x.odds(test, cause, 0, twelfths[cause - 1], 12);
            }
            x.answer(test, 0);
        }
        for (int cause = 1; cause <= 12; cause++) {
            check.dueOdd("8 of " + cause, x, cause, above[cause - 1], 542077866733L);
        }
    }

    private void exactBeforeNext() {
        fresh();
        check.due("9 a new object", x.exact(), false);
        x.fault(1, 2);
        x.test(1);
        x.answer(1, 0);
        x.learn(1);
        check.due("9 other calls alone", x.exact(), false);
        x.next(-1);
        check.due("9 a refused next alone", x.exact(), false);
    }

    private void exactAtTheEnd() {
        fresh();
        x.next(0);
        check.due("9 an end by one step", x.exact(), false);
        x.next(1);
        check.due("9 an end by the tree", x.exact(), true);
        x.test(1);
        x.next(3);
        check.due("9 an end by one step, a test is there", x.exact(), false);
        x.next(4);
        check.due("9 an end by the tree, a test is there", x.exact(), true);
        x.answer(1, 2);
        x.next(0);
        check.due("9 an end by one step, all answered", x.exact(), false);
        x.next(1);
        check.due("9 an end by the tree, all answered", x.exact(), true);
    }

    private void exactOfTheLast() {
        twoFaults();
        telling(2, 1);
        x.next(4);
        x.next(-1);
        check.due("9 a refused one is none", x.exact(), true);
        x.answer(1, 0);
        x.learn(1);
        x.test(1);
        check.due("9 until the next one", x.exact(), true);
        x.next(4);
        check.due("9 which is by one step", x.exact(), false);
        x.next(-1);
        check.due("9 a refused one is none", x.exact(), false);
    }

    private void costBeforeNext() {
        fresh();
        check.due("10 a new object", x.cost(), -1);
        x.next(-1);
        check.due("10 a refused next alone", x.cost(), -1);
    }

    private void costWithoutTree() {
        twoFaults();
        telling(2, 1);
        x.next(3);
        check.due("10 by one step", x.cost(), -1);
        x.next(4);
        check.due("10 by the tree", x.cost(), 1000);
        x.next(3);
        check.due("10 by one step behind a tree", x.cost(), -1);
    }

    private void costWithoutWeight() {
        fresh();
        x.next(1);
        check.due("10 no cause", x.cost(), -1);
        x.fault(0, 1);
        x.next(1);
        check.due("10 prior 0", x.cost(), -1);
        x.fault(1, 10);
        x.next(1);
        check.due("10 prior 1/10", x.cost(), 0);
        x.test(1);
        x.answer(1, 2);
        check.due("10 that weight stays the divisor", x.cost(), 0);
        x.next(1);
        check.due("10 none left", x.cost(), -1);
    }

    private void costOfNothingToDo() {
        twoFaults();
        telling(2, 0);
        x.next(4);
        check.due("10 a free test tells all", x.cost(), 0);
        x.answer(1, 1);
        x.next(1);
        check.due("10 one is left", x.cost(), 0);
    }

    private void costIsWhole() {
        fresh();
        x.fault(1, 3);
        x.fault(1, 3);
        x.fault(1, 3);
        telling(1, 1);
        telling(2, 1);
        x.next(16);
        check.due("10 1 + 2/3 is 1666", x.cost(), 1666);
        x.learn(1);
        x.next(16);
        check.due("10 1 + 2/4 is 1500", x.cost(), 1500);
        x.learn(1);
        x.learn(1);
        x.learn(1);
        x.next(16);
        check.due("10 1 + 2/7 is 1285", x.cost(), 1285);
    }

    private void costOfTheLast() {
        twoFaults();
        telling(2, 9);
        x.next(4);
        x.fault(1, 2);
        x.test(1);
        x.learn(2);
        x.answer(1, 2);
        x.next(-1);
        check.due("10 all this leaves the last next alone", x.cost(), 9000);
        check.due("13 and its nodes", x.tree(-1, 0), 3);
    }

    private void pairOfAFault() {
        fresh();
        check.due("11 no fault at all", x.pair(1, 2), -1);
        x.fault(1, 2);
        check.due("11 one alone", x.pair(1, 2), -1);
        check.due("11 one alone, the other way", x.pair(2, 1), -1);
        x.fault(1, 2);
        int[] unknown = {Integer.MIN_VALUE, -1, 0, 3, 12, 13, 33, 34, Integer.MAX_VALUE};
        for (int fault : unknown) {
            check.due("11 with " + fault, x.pair(1, fault), -1);
            check.due("11 of " + fault, x.pair(fault, 2), -1);
            check.due("11 only " + fault, x.pair(fault, fault), -1);
        }
        check.due("11 the first two", x.pair(1, 2), 3);
    }

    private void pairOfAPair() {
        fresh();
        faults(3, 1, 2);
        x.pair(1, 2);
        check.due("11 a pair is no fault", x.pair(4, 3), -1);
        check.due("11 nor the second of two", x.pair(3, 4), -1);
        check.due("11 nor both", x.pair(4, 4), -1);
        x.fault(1, 2);
        check.due("11 cause 5 is one", x.pair(5, 3), 6);
    }

    private void pairOfOne() {
        fresh();
        faults(8, 1, 2);
        for (int fault = 1; fault <= 8; fault++) {
            check.due("11 one", x.pair(fault, fault), -2);
        }
        check.due("11 none of them was taken", x.pair(1, 8), 9);
    }

    private void pairAgain() {
        fresh();
        faults(3, 1, 2);
        x.pair(1, 2);
        check.due("11 again", x.pair(1, 2), -3);
        check.due("11 the other way", x.pair(2, 1), -3);
        check.due("11 one of them with another", x.pair(3, 1), 5);
        check.due("11 this again", x.pair(1, 3), -3);
        check.due("11 the third one", x.pair(2, 3), 6);
    }

    private void pairRoom() {
        fresh();
        faults(8, 1, 2);
        for (int b = 2; b <= 4; b++) {
            x.pair(1, b);
        }
        check.due("11 the twelfth cause", x.pair(1, 5), 12);
        check.due("11 a thirteenth", x.pair(1, 6), -4);
        fresh();
        faults(5, 1, 2);
        int number = 5;
        for (int a = 1; a <= 4; a++) {
            for (int b = a + 1; b <= 5; b++) {
                number++;
                check.due("11 one of ten", x.pair(a, b), number <= 12 ? number : -4);
            }
        }
    }

    private void learnACause() {
        int[] unknown = {Integer.MIN_VALUE, -1, 4, 12, 13, 33, Integer.MAX_VALUE};
        twoFaults();
        x.pair(1, 2);
        for (int cause : unknown) {
            check.due("12 cause " + cause, x.learn(cause), -1);
        }
        check.due("12 the first", x.learn(1), 1);
        check.due("12 the third, a pair", x.learn(3), 1);
        x.fault(1, 2);
        check.due("12 the fourth, now", x.learn(4), 1);
    }

    private void learnNone() {
        fresh();
        check.due("12 without causes", x.learn(0), 1);
        twoFaults();
        for (int n = 1; n <= 8; n++) {
            check.due("12 another one than these", x.learn(0), n);
        }
        check.due("12 which is none of these", x.learn(1), 1);
        check.dueOdd("12 nor does it count for one", x, 1, 2, 3);
    }

    private void learnBeyondFive() {
        twoFaults();
        for (int n = 1; n <= 300; n++) {
            check.due("12 times", x.learn(2), n);
        }
        check.dueOdd("12 of which five count", x, 2, 6, 7);
        check.due("12 the other one was not", x.learn(1), 1);
    }

    private void learnEndsTheCase() {
        for (int cause = 0; cause <= 2; cause++) {
            twoFaults();
            tests(5, 1);
            for (int test = 1; test <= 5; test++) {
                x.answer(test, 1);
            }
            x.learn(cause);
            for (int test = 1; test <= 5; test++) {
                check.due("12 all answers are gone", x.answer(test, 0), 2);
            }
        }
    }

    private void learnLeavesTheLastNext() {
        twoFaults();
        telling(2, 3);
        x.next(4);
        x.answer(1, 0);
        x.learn(1);
        check.due("12 it was by the tree", x.exact(), true);
        check.due("12 its cost", x.cost(), 3000);
        check.due("12 its nodes", x.tree(-1, 0), 3);
        node(0, 1, 2, -1);
        node(2, 0, 1, 1);
    }

    private void treeBeforeNext() {
        fresh();
        check.due("13 no node", x.tree(-1, 0), 0);
        for (int what = -1; what <= 3; what++) {
            check.due("13 no node 0", x.tree(0, what), -1);
        }
        x.next(0);
        check.due("13 no node by one step", x.tree(-1, 0), 0);
    }

    private void treeOfOneNode() {
        twoFaults();
        x.next(1);
        check.due("13 one node", x.tree(-1, 0), 1);
        node(0, 0, 2, -1);
        check.due("13 no second", x.tree(1, 0), -1);
        fresh();
        x.fault(1, 1);
        x.next(1);
        check.due("13 one node again", x.tree(-1, 0), 1);
        node(0, 0, 1, -1);
    }

    private void treeWithoutWeight() {
        fresh();
        x.next(1);
        check.due("13 no cause, no node", x.tree(-1, 0), 0);
        x.fault(0, 1);
        x.next(1);
        check.due("13 no weight, no node", x.tree(-1, 0), 0);
        check.due("13 no node 0", x.tree(0, 0), -1);
    }

    private void treeInOrder() {
        fresh();
        faults(3, 1, 3);
        x.test(1);
        row(1, 1, 0, 12, 0);
        row(1, 2, 0, 0, 12);
        row(1, 3, 0, 0, 12);
        telling(3, 1);
        x.next(16);
        check.due("13 nothing is behind answer 0", x.tree(-1, 0), 5);
        node(0, 1, 3, -1);
        node(1, 0, 1, 1);
        node(2, 2, 2, 2);
        node(3, 0, 1, 0);
        node(4, 0, 1, 1);
    }

    private void treeNumbers() {
        int[] unknown = {Integer.MIN_VALUE, -301, -2, 3, 4, 299, 300, 301, Integer.MAX_VALUE};
        twoFaults();
        telling(2, 1);
        x.next(4);
        for (int i : unknown) {
            for (int what = -1; what <= 3; what++) {
                check.due("13 node " + i, x.tree(i, what), -1);
            }
        }
        node(0, 1, 2, -1);
        node(2, 0, 1, 1);
    }

    private void treeWhats() {
        int[] unknown = {Integer.MIN_VALUE, -1, 3, 4, 256, Integer.MAX_VALUE};
        twoFaults();
        telling(2, 1);
        x.next(4);
        for (int what : unknown) {
            check.due("13 what " + what, x.tree(0, what), -2);
            check.due("13 what " + what + " of the last", x.tree(2, what), -2);
            check.due("13 what " + what + " of -1", x.tree(-1, what), -1);
        }
        check.due("13 what 1 of -1", x.tree(-1, 1), -1);
        check.due("13 what 2 of -1", x.tree(-1, 2), -1);
        check.due("13 what 0 of -1", x.tree(-1, 0), 3);
    }

    /**
     * Causes 1 and 2 have 121 nodes behind the answers 0 and 1 of the first test, 3 and 4 fewer
     * behind its answer 2: those that the rows of tests 2 and 3, last in this list, leave them.
     */
    private void bigTree(int secondOfThree, int secondOfFour, int thirdOfThree, int thirdOfFour) {
        fresh();
        faults(4, 1, 4);
        tests(5, 1);
        for (int test = 2; test <= 5; test++) {
            x.needs(test, test - 1);
            for (int cause = 1; cause <= 4; cause++) {
                row(test, cause, cause, 4, 4);
            }
        }
        row(1, 1, 6, 6, 0);
        row(1, 2, 6, 6, 0);
        row(1, 3, 0, 0, 12);
        row(1, 4, 0, 0, 12);
        x.odds(2, 3, 2, secondOfThree, 12);
        x.odds(2, 4, 2, secondOfFour, 12);
        x.odds(3, 3, 2, thirdOfThree, 12);
        x.odds(3, 4, 2, thirdOfFour, 12);
        check.due("13 the first test", x.next(1024), 1);
        node(0, 1, 4, -1);
        node(1, 2, 2, 0);
        node(122, 2, 2, 1);
        node(243, 2, 2, 2);
    }

    private void treeOf299() {
        // 1 + 121 + 121 + 56: two of 27 and an end behind test 2, two of 13 behind test 3
        bigTree(4, 0, 0, 0);
        check.due("13 how many", x.tree(-1, 0), 299);
        node(298, 0, 1, 2);
        check.due("13 one more", x.tree(299, 0), -1);
    }

    private void treeOf300() {
        // 1 + 121 + 121 + 57: two of 28 behind test 2, two of 13 and an end behind test 3
        bigTree(0, 0, 4, 0);
        check.due("13 how many", x.tree(-1, 0), 300);
        node(298, 0, 2, 2);
        node(299, 0, 1, 2);
        check.due("13 one more", x.tree(300, 0), -1);
    }

    private void treeOf301() {
        // 1 + 121 + 121 + 58: two of 28 and an end behind test 2, two of 13 and an end behind it
        bigTree(4, 0, 4, 0);
        check.due("13 at most 300", x.tree(-1, 0), 300);
        node(298, 0, 2, 2);
        node(299, 0, 1, 2);
        check.due("13 the last one is not kept", x.tree(300, 0), -1);
        check.due("13 nor has it a what", x.tree(300, 3), -1);
    }

    private void treeOfTheLast() {
        bigTree(0, 0, 4, 0);
        x.answer(1, 2);
        x.next(256);
        check.due("13 the smaller tree", x.tree(-1, 0), 57);
        node(56, 0, 1, 2);
        check.due("13 nothing of the greater one", x.tree(57, 0), -1);
        x.next(255);
        check.due("13 none by one step", x.tree(-1, 0), 0);
        check.due("13 not even the first", x.tree(0, 0), -1);
    }

    private void neverInside() {
        twelveCauses();
        tests(3, 1);
        check.due("14 answer 0", x.never(0), 0);
        check.due("14 answer 1", x.never(1), 3);
        check.due("14 answer 2", x.never(2), 3);
        row(2, 7, 0, 6, 6);
        row(3, 7, 0, 0, 12);
        check.due("14 answer 0 by the others", x.never(0), 0);
        check.due("14 answer 1 by one", x.never(1), 2);
        check.due("14 answer 2 by one, twice", x.never(2), 1);
    }

    private void neverOutside() {
        twoFaults();
        x.test(1);
        for (int answer : NO_ANSWERS) {
            check.due("14 answer " + answer, x.never(answer), -2);
        }
    }

    private void neverWithoutTests() {
        fresh();
        for (int a = 0; a < 3; a++) {
            check.due("14 nothing is there", x.never(a), 0);
        }
        x.fault(1, 2);
        for (int a = 0; a < 3; a++) {
            check.due("14 no test is there", x.never(a), 0);
        }
        check.due("14 nor is the answer", x.never(3), -2);
    }

    private void neverWithoutCauses() {
        fresh();
        for (int n = 1; n <= 5; n++) {
            x.test(1);
            for (int a = 0; a < 3; a++) {
                check.due("14 no cause is there", x.never(a), n);
            }
        }
        x.fault(0, 1);
        check.due("14 a cause is there, with prior 0", x.never(0), 0);
    }

    private void neverButForATwelfth() {
        twelveCauses();
        tests(5, 1);
        check.due("14 five", x.never(2), 5);
        row(5, 12, 11, 0, 1);
        check.due("14 a twelfth for the last of all", x.never(2), 4);
        row(5, 12, 12, 0, 0);
        check.due("14 and no more", x.never(2), 5);
        row(1, 1, 0, 0, 1);
        check.due("14 a twelfth for the first of all", x.never(2), 4);
        x.answer(1, 0);
        check.due("14 the case is not asked", x.never(2), 4);
    }
}
