/** The document's first section and its 'Terms': a method for each sentence with a boundary. */
public final class TermsTest extends Bench {
    public static void main(String[] args) {
        TermsTest test = new TermsTest();
        test.callsUpTo512();
        test.causes();
        test.tests();
        test.odds();
        test.cases();
        test.usable();
        test.ends();
        test.trees();
        test.steps();
        test.oneStep();
        test.check.end();
    }

    private void causes() {
        atMostTwelveCauses();
        atMostTwelveCausesMostlyPairs();
        atMostEightFaults();
        priorOfAPair();
        learnedTimesThatCount();
        learnedTimesOfAPair();
        learnedTimesOfAPairsFaults();
        learnedTimesOfTheTwelfth();
    }

    private void cases() {
        oneAnswerEach();
        leftIfAboveZero();
        leftByTheLeastWeight();
        weightOfACase();
    }

    private void usable() {
        usableWithoutAnAnswer();
        usableIfNeedsHaveAnswers();
        usableByNeedsOfItsOwn();
        usableByOneOfItsAnswers();
        usableByCausesThatAreLeft();
        usableWithTheFirstCauseOut();
        usableByTheLastCause();
    }

    private void ends() {
        endWithNoneLeft();
        endWithOneLeft();
        endWithTwoLeft();
        endWithoutAnyTest();
        endWithAllTestsAnswered();
        endBehindANeed();
    }

    private void trees() {
        valueAtTheEnd();
        valueOfAnEmptyCase();
        valueBehindFiveTests();
        valueOfTwelveCauses();
        freeTestThoughItIsDearer();
        firstTestIsFreeThoughDearer();
        firstOfTheFreeTests();
        freeTestThatIsNotUsable();
        leastSum();
        equalSums();
        equalSumsFurtherDown();
        equalSumsOfUnlikeTrees();
        costTimesTheWeightOfTheCase();
    }

    private void steps() {
        stepsForTests();
        stepsForTestsWithoutAnswer();
        stepsForTestsThatAreNotUsable();
    }

    private void oneStep() {
        equalRatios();
        nearRatios();
        nearestRatios();
        noGain();
        losses();
        gainInThisCase();
        freeTestWithoutGain();
    }

    private void callsUpTo512() {
        fresh();
        x.fault(1, 2);
        x.fault(1, 2);
        x.test(1);
        x.odds(1, 2, 0, 0, 1);
        x.odds(1, 2, 1, 1, 1);
        for (int call = 6; call < 512; call += 2) {
            check.due("call " + call, x.answer(1, call / 2 % 2), 1);
            check.due("call " + (call + 1), x.learn(0), call / 2 - 2);
        }
        check.due("call 512", x.next(4), 1);
        fresh();
        for (int call = 1; call <= 512; call++) {
            check.due("learn as call " + call, x.learn(0), call);
        }
    }

    private void atMostTwelveCauses() {
        twelveCauses();
        x.test(1);
        check.due("the twelfth cause is there", x.odds(1, 12, 0, 1, 2), 6);
        check.due("no cause 13", x.odds(1, 13, 0, 1, 2), -1);
        check.due("no cause 0", x.odds(1, 0, 0, 1, 2), -1);
        check.due("no room for a pair", x.pair(1, 2), -4);
        check.due("still no cause 13", x.learn(13), -1);
        check.due("all twelve are left", x.answer(1, 0), 12);
    }

    private void atMostTwelveCausesMostlyPairs() {
        fresh();
        faults(4, 1, 2);
        int number = 4;
        for (int a = 1; a <= 4; a++) {
            for (int b = a + 1; b <= 4; b++) {
                number++;
                check.due("pair " + a + ", " + b, x.pair(a, b), number);
            }
        }
        check.due("a fault behind six pairs", x.fault(1, 2), 11);
        check.due("the twelfth is a fault", x.fault(1, 2), 12);
        check.due("a seventh fault has no room", x.fault(1, 2), -4);
        check.due("a seventh pair has no room", x.pair(11, 12), -4);
        check.due("no cause 13", x.learn(13), -1);
    }

    private void atMostEightFaults() {
        fresh();
        faults(7, 1, 2);
        x.pair(1, 7);
        check.due("the eighth fault is cause 9", x.fault(1, 2), 9);
        check.due("no ninth fault", x.fault(1, 2), -4);
        check.due("but a pair of the eighth", x.pair(9, 1), 10);
        check.due("still no ninth fault", x.fault(1, 2), -4);
        check.due("a pair more", x.pair(9, 2), 11);
        check.due("the twelfth cause", x.pair(9, 3), 12);
    }

    private void priorOfAPair() {
        fresh();
        x.fault(2, 3);
        x.fault(1, 10);
        x.fault(0, 7);
        x.fault(1, 1);
        x.pair(1, 2);
        check.dueOdd("2/30 of 2/3 + 1/10 + 1 + 2/30", x, 5, 2, 55);
        x.pair(2, 4);
        check.dueOdd("a pair with a fault of prior 1", x, 6, 3, 58);
        check.dueOdd("weighs as much as the other", x, 2, 3, 58);
        x.pair(3, 4);
        check.dueOdd("a pair with a fault of prior 0", x, 7, 0, 1);
        x.test(1);
        check.due("it is not left, nor is the fault", x.answer(1, 0), 5);
    }

    private void learnedTimesThatCount() {
        twoFaults();
        check.dueOdd("never learned", x, 1, 1, 2);
        for (int n = 1; n <= 5; n++) {
            check.due("learned", x.learn(1), n);
            check.dueOdd("learned " + n + " times", x, 1, n + 1, n + 2);
        }
        for (int n = 6; n <= 8; n++) {
            check.due("learned beyond 5", x.learn(1), n);
            check.dueOdd("learned " + n + " times", x, 1, 6, 7);
        }
        x.learn(0);
        check.dueOdd("another one was it", x, 1, 6, 7);
        check.dueOdd("the other fault's share", x, 2, 1, 7);
    }

    private void learnedTimesOfAPair() {
        fresh();
        faults(2, 1, 1);
        x.pair(1, 2);
        for (int n = 1; n <= 7; n++) {
            x.learn(3);
            int times = n < 5 ? n + 1 : 6;
            check.dueOdd("the pair learned " + n, x, 3, times % 2 == 0 ? times / 2 : times,
                    times % 2 == 0 ? (times + 2) / 2 : times + 2);
        }
        check.dueOdd("its faults were not learned", x, 1, 1, 8);
    }

    private void learnedTimesOfAPairsFaults() {
        fresh();
        faults(3, 1, 1);
        x.pair(1, 2);
        x.learn(1);
        x.learn(1);
        x.pair(1, 3);
        check.dueOdd("the fault counts three times", x, 1, 3, 7);
        check.dueOdd("its older pair once", x, 4, 1, 7);
        check.dueOdd("its younger pair once too", x, 5, 1, 7);
    }

    private void learnedTimesOfTheTwelfth() {
        twelveCauses();
        for (int n = 1; n <= 6; n++) {
            check.due("the twelfth learned", x.learn(12), n);
        }
        // eight halves and three quarters, and six quarters
        check.dueOdd("six times its prior", x, 12, 6, 25);
    }

    private void tests() {
        fresh();
        check.due("no test 1", x.needs(1, 1), -1);
        for (int number = 1; number <= 5; number++) {
            check.due("test", x.test(400), number);
            check.due("it is there", x.needs(number, number), -2);
            check.due("the next one is not", x.needs(number + 1, number + 1), -1);
        }
        check.due("no test 0", x.needs(0, 0), -1);
        check.due("no sixth", x.test(0), -4);
        check.due("it is not there", x.answer(6, 0), -1);
    }

    /** At first 12 for answer 0, 0 for the others: of tests older and younger than a cause. */
    private void odds() {
        fresh();
        tests(3, 1);
        faults(8, 1, 2);
        tests(2, 1);
        for (int a = 1; a <= 4; a++) {
            x.pair(a, 8);
        }
        for (int test = 1; test <= 5; test++) {
            for (int cause = 1; cause <= 12; cause++) {
                String which = "odds of " + test + ", " + cause;
                check.due(which + ": 0 and 2 have 12", x.odds(test, cause, 1, 1, 12), -2);
                check.due(which + ": 0 and 1 have 12", x.odds(test, cause, 2, 1, 12), -2);
                check.due(which + ": 1 and 2 have 0", x.odds(test, cause, 0, 0, 1), 0);
            }
        }
    }

    private void oneAnswerEach() {
        twoFaults();
        tests(2, 1);
        x.answer(1, 0);
        check.due("not the same once more", x.answer(1, 0), -3);
        check.due("nor another", x.answer(1, 1), -3);
        check.due("but one of the other test", x.answer(2, 0), 2);
        check.due("and then none", x.answer(2, 2), -3);
        x.learn(0);
        check.due("a new case, a new answer", x.answer(1, 1), 0);
    }

    private void leftIfAboveZero() {
        fresh();
        x.fault(0, 10);
        x.fault(1, 10);
        x.fault(1, 1);
        x.test(1);
        row(1, 1, 4, 4, 4);
        row(1, 2, 0, 1, 11);
        row(1, 3, 0, 0, 12);
        check.due("by no odds at all", x.answer(1, 0), 0);
        x.learn(0);
        check.due("by a twelfth", x.answer(1, 1), 1);
        x.learn(0);
        check.due("not by a prior of 0", x.answer(1, 2), 2);
    }

    private void leftByTheLeastWeight() {
        fresh();
        faults(2, 1, 10);
        x.pair(1, 2);
        tests(5, 1);
        for (int test = 1; test <= 5; test++) {
            row(test, 3, 0, 1, 0);
        }
        row(1, 1, 11, 1, 0);
        row(2, 1, 11, 1, 0);
        check.due("two by 1/12", x.answer(1, 1), 2);
        check.dueOdd("1/100 beside 1/10", x, 3, 1, 11);
        check.due("two by 1/144", x.answer(2, 1), 2);
        for (int test = 3; test <= 5; test++) {
            check.due("one by 1/12 each", x.answer(test, 1), 1);
        }
        check.dueOdd("1/24883200 is above 0", x, 3, 1, 1);
        check.dueOdd("the others are not left", x, 1, 0, 1);
    }

    private void weightOfACase() {
        twelveCauses();
        check.dueOdd("the first of 8/2 + 4/4", x, 1, 1, 10);
        check.dueOdd("the twelfth of them", x, 12, 1, 20);
        x.test(1);
        for (int cause = 1; cause <= 12; cause++) {
            row(1, cause, cause, 0, 0);
        }
        x.answer(1, 0);
        // in 48ths: 2 (1 + .. + 8) + 9 + 10 + 11 + 12 = 114
        check.dueOdd("the first with 1/12", x, 1, 1, 57);
        check.dueOdd("the twelfth with 12/12", x, 12, 2, 19);
    }

    private void usableWithoutAnAnswer() {
        twoFaults();
        x.test(1);
        row(1, 2, 11, 1, 0);
        dueNext("no answer yet", 1);
        check.due("both stay", x.answer(1, 0), 2);
        dueNext("it has answer 0", 0);
        x.learn(0);
        dueNext("the answer is gone", 1);
    }

    private void usableIfNeedsHaveAnswers() {
        twoFaults();
        tests(2, 1);
        int wanted = telling(2, 1);
        for (int test = 1; test <= 2; test++) {
            row(test, 1, 4, 4, 4);
            row(test, 2, 4, 4, 4);
        }
        dueNext("it needs none yet", wanted);
        x.needs(wanted, 1);
        x.needs(wanted, 2);
        dueNext("both have no answer", 0);
        x.answer(2, 2);
        dueNext("one has no answer", 0);
        x.answer(1, 0);
        dueNext("both have one", wanted);
    }

    private void usableByNeedsOfItsOwn() {
        twoFaults();
        int wanted = telling(2, 1);
        tests(2, 1);
        x.needs(wanted, 2);
        x.answer(2, 0);
        x.needs(2, 3);
        dueNext("what its need needs is not asked", wanted);
        check.due("nor for an answer", x.answer(wanted, 0), 1);
    }

    private void usableByOneOfItsAnswers() {
        for (int a = 0; a < 3; a++) {
            twoFaults();
            x.test(1);
            row(1, 1, 3, 3, 3);
            row(1, 2, 3, 3, 3);
            dueNext("all the same", 0);
            x.odds(1, 2, a, 4, 12);
            dueNext("a twelfth more for " + a, 1);
            x.odds(1, 2, a, 2, 12);
            dueNext("a twelfth less for " + a, 1);
        }
    }

    private void usableByCausesThatAreLeft() {
        fresh();
        faults(2, 1, 2);
        x.fault(0, 1);
        telling(3, 1);
        dueNext("only a cause that is not left differs", 0);
        x.fault(1, 2);
        int fourth = telling(4, 1);
        dueNext("the fourth is left and differs", fourth);
        int third = x.test(1);
        row(third, 4, 11, 1, 0);
        check.due("the fourth is out", x.answer(fourth, 0), 2);
        dueNext("and so it does not count", 0);
    }

    private void usableWithTheFirstCauseOut() {
        fresh();
        faults(3, 1, 3);
        int first = telling(1, 1);
        int second = x.test(1);
        row(second, 1, 11, 1, 0);
        check.due("the first is out", x.answer(first, 0), 2);
        dueNext("only it differs from the others", 0);
        row(second, 3, 11, 0, 0);
        dueNext("the third differs from the second", second);
    }

    private void usableByTheLastCause() {
        twelveCauses();
        int first = telling(12, 1);
        dueNext("only the twelfth differs", first);
        row(first, 12, 12, 0, 0);
        dueNext("none differs", 0);
        row(first, 1, 11, 0, 1);
        dueNext("only the first differs", first);
    }

    private void endWithNoneLeft() {
        fresh();
        x.fault(0, 1);
        x.fault(0, 1);
        telling(2, 1);
        dueNext("none is left", 0);
    }

    private void endWithOneLeft() {
        fresh();
        x.fault(1, 1);
        x.fault(0, 1);
        telling(2, 0);
        dueNext("one is left", 0);
    }

    private void endWithTwoLeft() {
        fresh();
        x.fault(1, 1);
        x.fault(1, 10);
        telling(2, 400);
        dueNext("two are left", 1);
    }

    private void endWithoutAnyTest() {
        twoFaults();
        dueNext("no test, two causes", 0);
        fresh();
        dueNext("no test, no cause", 0);
        x.test(0);
        dueNext("a free test, no cause", 0);
    }

    private void endWithAllTestsAnswered() {
        twoFaults();
        for (int test = 1; test <= 5; test++) {
            x.test(1);
            row(test, 2, 6, 6, 0);
        }
        for (int test = 1; test <= 5; test++) {
            dueNext("a test is there", test);
            check.due("both are left", x.answer(test, 0), 2);
        }
        dueNext("no test is there", 0);
    }

    private void endBehindANeed() {
        twoFaults();
        int tells = telling(2, 1);
        int tellsNot = x.test(1);
        x.needs(tells, tellsNot);
        dueNext("the only way is through a test that tells nothing", 0);
        check.due("so the tree ends at once", x.next(16), 0);
        check.due("and costs what the end does", x.cost(), 300000);
    }

    private void valueAtTheEnd() {
        fresh();
        for (int k = 1; k <= 8; k++) {
            x.fault(1, k);
            x.next(1);
            check.due("300 for each but one of " + k, x.cost(), 300000L * (k - 1));
        }
        twelveCauses();
        x.next(1);
        check.due("300 for each but one of twelve", x.cost(), 3300000);
        check.due("the node of this end", x.tree(0, 1), 12);
    }

    private void valueOfAnEmptyCase() {
        fresh();
        x.fault(0, 1);
        x.next(1);
        check.due("no weight, no cost", x.cost(), -1);
        twoFaults();
        telling(2, 7);
        x.next(4);
        check.due("nothing is behind answer 2", x.cost(), 7000);
        row(1, 1, 0, 0, 0);
        row(1, 2, 0, 1, 0);
        x.next(4);
        check.due("nothing is behind 0 and 2", x.cost(), 7000);
        check.due("they have no nodes", x.tree(-1, 0), 2);
    }

    private void valueBehindFiveTests() {
        twoFaults();
        for (int test = 1; test <= 5; test++) {
            x.test(1);
            row(test, 2, 6, 6, 0);
        }
        x.next(1024);
        // 1 + 3/4 + 5/8 + 9/16 + 17/32 for the tests, 300 * 33/64 for both left at the end
        check.due("the end behind five answers", x.cost(), 158156);
        node(5, 0, 2, 0);
        node(6, 0, 1, 1);
    }

    private void valueOfTwelveCauses() {
        twelveCauses();
        telling(12, 7);
        x.next(4);
        // 7 + 3000 * (19/4) / 5
        check.due("eleven left behind answer 0", x.cost(), 2857000);
        node(0, 1, 12, -1);
        node(1, 0, 11, 0);
        node(2, 0, 1, 1);
    }

    private void freeTestThoughItIsDearer() {
        fresh();
        x.fault(1, 4);
        x.fault(1, 4);
        x.fault(1, 2);
        x.test(1);
        row(1, 1, 0, 0, 0);
        row(1, 2, 0, 0, 0);
        check.due("a test that loses 1 and 2", x.next(4), 1);
        check.due("its cost alone", x.cost(), 1000);
        telling(3, 0);
        dueNext("the free test goes before it", 2);
        x.next(16);
        check.due("though 1 and 2 stay together then", x.cost(), 150000);
    }

    private void firstTestIsFreeThoughDearer() {
        fresh();
        x.fault(1, 4);
        x.fault(1, 4);
        x.fault(1, 2);
        telling(3, 0);
        x.test(1);
        row(2, 1, 0, 0, 0);
        row(2, 2, 0, 0, 0);
        dueNext("the free test is the first of all", 1);
        x.next(16);
        check.due("1 and 2 stay together then too", x.cost(), 150000);
    }

    private void firstOfTheFreeTests() {
        twoFaults();
        telling(2, 1);
        x.test(0);
        row(2, 2, 11, 1, 0);
        telling(2, 0);
        dueNext("the first free one, not the best", 2);
        x.answer(2, 0);
        dueNext("then the second", 3);
    }

    private void freeTestThatIsNotUsable() {
        twoFaults();
        telling(2, 400);
        x.test(0);
        dueNext("the free one tells nothing", 1);
        row(2, 1, 0, 12, 0);
        dueNext("the free one tells all", 2);
        x.needs(2, 1);
        dueNext("the free one needs the other", 1);
    }

    private void leastSum() {
        twoFaults();
        telling(2, 2);
        telling(2, 1);
        dueNext("1 is less than 2", 2);
        telling(2, 400);
        dueNext("and than 400", 2);
        x.next(1024);
        check.due("the sum", x.cost(), 1000);
    }

    private void equalSums() {
        twoFaults();
        telling(2, 3);
        telling(1, 3);
        telling(2, 3);
        dueNext("of three equal ones the first", 1);
    }

    private void equalSumsFurtherDown() {
        fresh();
        faults(3, 1, 3);
        telling(3, 5);
        telling(2, 5);
        telling(1, 5);
        dueNext("the first", 1);
        x.next(64);
        node(1, 2, 2, 0);
        check.due("5 and two thirds of 5", x.cost(), 8333);
    }

    /** By two tests of 10, the second for half of the weight, or by one of 15. */
    private void equalSumsOfUnlikeTrees() {
        for (int big = 1; big <= 2; big++) {
            fresh();
            x.fault(1, 4);
            x.fault(1, 4);
            x.fault(1, 2);
            for (int test = 1; test <= 2; test++) {
                telling(3, test == big ? 15 : 10);
            }
            row(big, 1, 0, 0, 12);
            telling(1, 10);
            check.due("both ways cost 15", x.next(64), 1);
            check.due("both ways cost 15", x.cost(), 15000);
            check.due("the nodes of the first way", x.tree(-1, 0), big == 1 ? 4 : 5);
        }
    }

    private void costTimesTheWeightOfTheCase() {
        fresh();
        x.fault(1, 4);
        x.fault(1, 4);
        x.fault(1, 2);
        telling(1, 10);
        telling(3, 10);
        check.due("a half needs no second test", x.next(16), 2);
        check.due("10 and half of 10", x.cost(), 15000);
        row(2, 3, 0, 0, 0);
        x.next(16);
        check.due("what is lost needs none either", x.cost(), 15000);
    }

    private void stepsForTests() {
        long[] needed = {1, 4, 16, 64, 256, 1024};
        twoFaults();
        for (int m = 0; m <= 5; m++) {
            x.next(needed[m] - 1);
            check.due("a step too few for " + m, x.exact(), false);
            check.due("so no tree", x.tree(-1, 0), 0);
            x.next(needed[m]);
            check.due("enough for " + m, x.exact(), true);
            check.due("so a tree", x.tree(-1, 0) > 0, true);
            telling(2, 1);
        }
        x.next(Long.MAX_VALUE);
        check.due("more than enough", x.exact(), true);
        x.next(1L << 32);
        check.due("2^32 is more than enough", x.exact(), true);
    }

    private void stepsForTestsWithoutAnswer() {
        twoFaults();
        tests(5, 1);
        long needed = 1024;
        for (int test = 5; test >= 1; test--) {
            x.answer(test, 0);
            needed /= 4;
            x.next(needed - 1);
            check.due("a step too few with an answer of " + test, x.exact(), false);
            x.next(needed);
            check.due("enough with an answer of " + test, x.exact(), true);
        }
        x.learn(0);
        x.next(1023);
        check.due("a step too few in a new case", x.exact(), false);
    }

    private void stepsForTestsThatAreNotUsable() {
        twoFaults();
        telling(2, 1);
        tests(2, 1);
        x.needs(2, 1);
        check.due("three tests, one of them usable", x.next(63), 1);
        check.due("by one step", x.exact(), false);
        check.due("by the tree", x.next(64), 1);
        check.due("by the tree", x.exact(), true);
    }

    /** Two faults of 1 / 2, and tests with a gain of k / 24 for a cost, each row {k, cost}. */
    private void gains(int[]... rows) {
        twoFaults();
        for (int[] row : rows) {
            int test = x.test(row[1]);
            row(test, 2, 12 - row[0], row[0], 0);
        }
    }

    private void equalRatios() {
        int[][] rows = {{3, 21}, {7, 49}, {1, 7}, {12, 84}, {5, 35}};
        for (int first = 0; first < 5; first++) {
            for (int second = 0; second < 5; second++) {
                gains(rows[first], rows[second]);
                check.due("equal gains for each cost", x.next(0), 1);
            }
        }
        gains(rows);
        check.due("five equal gains for each cost", x.next(1023), 1);
    }

    private void nearRatios() {
        gains(new int[] {1, 33}, new int[] {12, 395});
        check.due("1/33 is less than 12/395", x.next(0), 2);
        gains(new int[] {1, 33}, new int[] {12, 397});
        check.due("1/33 is more than 12/397", x.next(0), 1);
        gains(new int[] {12, 397}, new int[] {1, 33});
        check.due("12/397 is less than 1/33", x.next(0), 2);
        gains(new int[] {11, 400}, new int[] {10, 363});
        check.due("11/400 is less than 10/363", x.next(0), 2);
        gains(new int[] {11, 400}, new int[] {10, 364});
        check.due("11/400 is more than 10/364", x.next(0), 1);
        gains(new int[] {1, 400}, new int[] {1, 399}, new int[] {1, 400});
        check.due("1/399 is the most", x.next(0), 2);
    }

    /** Gains of 1/7 * 1152/1728 for 365 and of 1/8 * 1331/1728 for 369: 3400704 to 3400705. */
    private void nearestRatios() {
        int[] twelfths = {8, 12, 12};
        for (int better = 4; better <= 5; better++) {
            fresh();
            x.fault(1, 1);
            x.fault(1, 7);
            x.fault(1, 8);
            for (int test = 1; test <= 3; test++) {
                x.test(1);
                x.odds(test, 2, 0, twelfths[test - 1], 12);
                x.odds(test, 3, 0, 11, 12);
                x.answer(test, 0);
            }
            telling(better == 4 ? 3 : 2, better == 4 ? 369 : 365);
            telling(better == 4 ? 2 : 3, better == 4 ? 365 : 369);
            check.due("a gain greater by so little", x.next(0), better);
        }
    }

    /** A test with which the first of two equal faults is the likelier behind each answer. */
    private void withoutGain(long cost) {
        int test = x.test(cost);
        row(test, 1, 6, 6, 0);
        row(test, 2, 6, 5, 0);
    }

    private void withLoss(long cost) {
        int test = x.test(cost);
        row(test, 1, 1, 0, 0);
        row(test, 2, 0, 1, 0);
    }

    private void noGain() {
        twoFaults();
        withoutGain(400);
        withoutGain(1);
        check.due("0 for 400 is as good as 0 for 1", x.next(0), 1);
        row(1, 2, 7, 5, 0);
        check.due("a gain of 1/24 for 400 is more than 0 for 1", x.next(0), 1);
        twoFaults();
        withLoss(400);
        withoutGain(1);
        check.due("0 is more than a loss", x.next(0), 2);
    }

    private void losses() {
        twoFaults();
        withLoss(10);
        withLoss(11);
        withLoss(11);
        check.due("a loss is the less for a greater cost", x.next(0), 2);
        check.due("by the tree the cost is less", x.next(64), 1);
    }

    private void gainInThisCase() {
        fresh();
        x.fault(1, 1);
        x.fault(1, 2);
        x.fault(1, 2);
        x.fault(1, 4);
        int third = telling(3, 10);
        int fourth = telling(4, 10);
        int odd = x.test(1);
        row(odd, 3, 3, 0, 0);
        check.due("1/2 is the greater gain at first", x.next(0), third);
        x.answer(odd, 0);
        check.due("1/8 is less than 1/4 then", x.next(0), fourth);
    }

    private void freeTestWithoutGain() {
        twoFaults();
        telling(2, 1);
        withLoss(0);
        dueNext("a free test, even with a loss", 2);
    }
}
