import java.util.ArrayList;
import java.util.List;
import java.util.function.Consumer;
import java.util.function.ToLongFunction;

/**
 * Refusals answer the first number that fits and change nothing: of two guides with the same
 * past one hears the refused call, and then both must answer alike, whatever they are asked.
 */
public final class RefusalsTest {
    private static final long THROWN = Long.MIN_VALUE;
    private static final long WRAP = 1L << 32;

    /** A call, what it must answer, and which numbers fit it. */
    private record Refused(String name, ToLongFunction<GuideSearch> call, long due) { }

    private final Check check = new Check();
    private final List<Refused> refused = new ArrayList<>();

    public static void main(String[] args) {
        RefusalsTest test = new RefusalsTest();
        test.inANewObject();
        test.inTheMiddleOfACase();
        test.withAllFaults();
        test.withAllCauses();
        test.withoutWeight();
        test.check.end();
    }

    private void due(long due, String name, ToLongFunction<GuideSearch> call) {
        refused.add(new Refused(name, call, due));
    }

    private static long oddOf(GuideSearch g, int cause, int side) {
        try {
            return g.odd(cause, side);
        } catch (ArithmeticException e) {
            return THROWN;
        }
    }

    /** Tries all calls that were told since the last time, each in the same state. */
    private void in(String state, Consumer<GuideSearch> past) {
        for (Refused call : refused) {
            for (Probe probe : Probe.values()) {
                GuideSearch heard = new GuideSearch();
                GuideSearch other = new GuideSearch();
                past.accept(heard);
                past.accept(other);
                String name = state + ", " + call.name();
                check.due(name, call.call().applyAsLong(heard), call.due());
                check.due(name + " changed nothing that " + probe + " shows",
                        probe.ask(heard).equals(probe.ask(other)), true);
            }
        }
        refused.clear();
    }

    private void anyState() {
        due(-2, "fault: down 0", g -> g.fault(0, 0));
        due(-2, "fault: down 11", g -> g.fault(1, 11));
        due(-2, "fault: up -1", g -> g.fault(-1, 10));
        due(-2, "fault: up above down", g -> g.fault(10, 9));
        due(-2, "test: -1", g -> g.test(-1));
        due(-2, "test: 401", g -> g.test(401));
        due(-2, "test: 2^32", g -> g.test(WRAP));
        due(-1, "odds: test 0", g -> g.odds(0, 1, 0, 0, 1));
        due(-1, "odds: test 6", g -> g.odds(6, 1, 0, 0, 1));
        due(-1, "odds: cause 0", g -> g.odds(1, 0, 0, 0, 1));
        due(-1, "odds: cause 13", g -> g.odds(1, 13, 0, 0, 1));
        due(-1, "odds: -1 before -2, test 0, answer 3", g -> g.odds(0, 1, 3, 0, 1));
        due(-1, "odds: -1 before -2, cause 13, down 5", g -> g.odds(1, 13, 0, 0, 5));
        due(-1, "needs: test 0", g -> g.needs(0, 1));
        due(-1, "needs: other 6", g -> g.needs(1, 6));
        due(-1, "needs: -1 before -2, twice 6", g -> g.needs(6, 6));
        due(-2, "next: -1", g -> g.next(-1));
        due(-2, "next: the least", g -> g.next(Long.MIN_VALUE));
        due(-1, "answer: test 0", g -> g.answer(0, 0));
        due(-1, "answer: test 6", g -> g.answer(6, 0));
        due(-1, "answer: -1 before -2, test 6, answer 3", g -> g.answer(6, 3));
        due(-1, "odd: cause 0", g -> oddOf(g, 0, 0));
        due(-1, "odd: cause 13", g -> oddOf(g, 13, 1));
        due(-1, "pair: fault 0", g -> g.pair(0, 1));
        due(-1, "pair: fault 13", g -> g.pair(1, 13));
        due(-1, "pair: -1 before -2, twice 13", g -> g.pair(13, 13));
        due(-1, "learn: -1", g -> g.learn(-1));
        due(-1, "learn: 13", g -> g.learn(13));
        due(-1, "tree: -2", g -> g.tree(-2, 0));
        due(-1, "tree: 300", g -> g.tree(300, 0));
        due(-1, "tree: what 1 of -1", g -> g.tree(-1, 1));
        due(-1, "tree: -1 before -2, node 300, what 3", g -> g.tree(300, 3));
        due(-2, "never: -1", g -> g.never(-1));
        due(-2, "never: 3", g -> g.never(3));
    }

    private void inANewObject() {
        anyState();
        due(-1, "odds: test 1", g -> g.odds(1, 1, 0, 0, 1));
        due(-1, "needs: -1 before -2, twice 1", g -> g.needs(1, 1));
        due(-1, "answer: test 1", g -> g.answer(1, 0));
        due(-1, "odd: -1 before the exception", g -> oddOf(g, 1, 0));
        due(-1, "pair: -1 before -2, twice 1", g -> g.pair(1, 1));
        due(-1, "learn: 1", g -> g.learn(1));
        due(-1, "tree: node 0", g -> g.tree(0, 0));
        in("a new object", g -> { });
    }

    /** Three faults, a pair, four tests; 2 needs 1, 3 needs 2; 1 has an answer, behind a tree. */
    private static void middle(GuideSearch g) {
        g.fault(1, 2);
        g.fault(1, 3);
        g.fault(2, 5);
        g.pair(1, 3);
        for (int cost = 10; cost <= 40; cost += 10) {
            g.test(cost);
        }
        for (int test = 1; test <= 4; test++) {
            for (int cause = 1; cause <= 4; cause++) {
                g.odds(test, cause, 0, (test + cause) % 5, 12);
                g.odds(test, cause, 1, (test * cause) % 5, 12);
                g.odds(test, cause, 2, 1, 6);
            }
        }
        g.needs(2, 1);
        g.needs(3, 2);
        g.learn(2);
        g.learn(0);
        g.next(256);
        g.answer(1, 2);
    }

    private void inTheMiddleOfACase() {
        anyState();
        due(-1, "odds: test 5", g -> g.odds(5, 1, 0, 0, 1));
        due(-1, "odds: cause 5", g -> g.odds(2, 5, 0, 0, 1));
        due(-1, "odds: -1 before -3, cause 5 of test 1", g -> g.odds(1, 5, 0, 0, 1));
        due(-2, "odds: answer 3", g -> g.odds(2, 1, 3, 0, 1));
        due(-2, "odds: answer -1", g -> g.odds(2, 1, -1, 0, 1));
        due(-2, "odds: down 0", g -> g.odds(2, 1, 0, 0, 0));
        due(-2, "odds: down 5", g -> g.odds(2, 1, 0, 1, 5));
        due(-2, "odds: down -1", g -> g.odds(2, 1, 0, 0, -1));
        due(-2, "odds: up -1", g -> g.odds(2, 1, 0, -1, 12));
        due(-2, "odds: up above down", g -> g.odds(2, 1, 0, 2, 1));
        due(-2, "odds: 13 together", g -> g.odds(2, 1, 0, 9, 12));
        due(-2, "odds: -2 before -3, answer 3", g -> g.odds(1, 1, 3, 0, 1));
        due(-2, "odds: -2 before -3, down 5", g -> g.odds(1, 1, 0, 0, 5));
        due(-2, "odds: -2 before -3, up -1", g -> g.odds(1, 1, 0, -1, 2));
        due(-2, "odds: -2 before -3, 15 together", g -> g.odds(1, 1, 0, 1, 1));
        due(-3, "odds: it has an answer", g -> g.odds(1, 1, 0, 0, 1));
        due(-3, "odds: it has an answer, as another", g -> g.odds(1, 4, 1, 1, 12));
        due(-1, "needs: test 5", g -> g.needs(5, 1));
        due(-1, "needs: other 5", g -> g.needs(4, 5));
        due(-2, "needs: itself", g -> g.needs(4, 4));
        due(-2, "needs: itself, with needs", g -> g.needs(3, 3));
        due(-3, "needs: back", g -> g.needs(1, 2));
        due(-3, "needs: back by one", g -> g.needs(1, 3));
        due(-1, "answer: test 5", g -> g.answer(5, 0));
        due(-2, "answer: 3", g -> g.answer(2, 3));
        due(-2, "answer: -1", g -> g.answer(4, -1));
        due(-2, "answer: -2 before -3, it has one", g -> g.answer(1, 3));
        due(-2, "answer: -2 before -3, a need has none", g -> g.answer(3, -1));
        due(-3, "answer: it has one", g -> g.answer(1, 0));
        due(-3, "answer: it has this one", g -> g.answer(1, 2));
        due(-3, "answer: a need has none", g -> g.answer(3, 0));
        due(-1, "odd: cause 5", g -> oddOf(g, 5, 0));
        due(-1, "pair: a pair", g -> g.pair(4, 2));
        due(-1, "pair: -1 before -2, twice a pair", g -> g.pair(4, 4));
        due(-2, "pair: one", g -> g.pair(3, 3));
        due(-3, "pair: again", g -> g.pair(1, 3));
        due(-3, "pair: the other way", g -> g.pair(3, 1));
        due(-1, "learn: 5", g -> g.learn(5));
        due(-2, "tree: what 3", g -> g.tree(0, 3));
        due(-2, "tree: what -1", g -> g.tree(1, -1));
        in("in the middle of a case", RefusalsTest::middle);
    }

    private static void allTests(GuideSearch g) {
        for (int cost = 0; cost <= 400; cost += 100) {
            g.test(400 - cost);
        }
        for (int test = 1; test <= 5; test++) {
            for (int cause = 1; cause <= 12; cause++) {
                g.odds(test, cause, 0, (test + cause) % 7, 12);
                g.odds(test, cause, 1, (test * cause) % 6, 12);
            }
        }
    }

    /** Eight faults, a pair, five tests; one step was made. */
    private static void eightFaults(GuideSearch g) {
        for (int down = 1; down <= 8; down++) {
            g.fault(1, down);
        }
        g.pair(2, 7);
        allTests(g);
        g.next(1023);
    }

    private void withAllFaults() {
        anyState();
        due(-4, "fault: a ninth", g -> g.fault(1, 2));
        due(-2, "fault: -2 before -4, down 0", g -> g.fault(0, 0));
        due(-2, "fault: -2 before -4, up 2", g -> g.fault(2, 1));
        due(-4, "test: a sixth", g -> g.test(0));
        due(-2, "test: -2 before -4", g -> g.test(401));
        due(-2, "odds: 13 together", g -> g.odds(1, 1, 2, 10, 12));
        due(-2, "next: by the tree before", g -> g.next(-1));
        due(-3, "pair: again", g -> g.pair(7, 2));
        due(-1, "tree: node 0", g -> g.tree(0, 0));
        in("with all faults", RefusalsTest::eightFaults);
    }

    /** Seven faults and five pairs, five tests; a free test has its answer, behind a tree. */
    private static void twelveCauses(GuideSearch g) {
        for (int down = 4; down <= 10; down++) {
            g.fault(3, down);
        }
        for (int b = 2; b <= 6; b++) {
            g.pair(1, b);
        }
        allTests(g);
        g.learn(12);
        g.next(1024);
        g.answer(5, 0);
    }

    private void withAllCauses() {
        anyState();
        due(-4, "fault: an eighth", g -> g.fault(1, 2));
        due(-2, "fault: -2 before -4", g -> g.fault(1, 11));
        due(-4, "test: a sixth", g -> g.test(400));
        due(-4, "pair: a thirteenth", g -> g.pair(2, 3));
        due(-1, "pair: -1 before -4, fault 13", g -> g.pair(1, 13));
        due(-1, "pair: -1 before -4, a pair", g -> g.pair(12, 1));
        due(-2, "pair: -2 before -4", g -> g.pair(7, 7));
        due(-3, "pair: -3 before -4", g -> g.pair(6, 1));
        due(-3, "odds: it has an answer", g -> g.odds(5, 12, 0, 0, 1));
        due(-3, "answer: it has one", g -> g.answer(5, 1));
        in("with all causes", RefusalsTest::twelveCauses);
    }

    /** The middle of a case once more, then an answer behind which none is left. */
    private static void noneLeft(GuideSearch g) {
        middle(g);
        g.learn(1);
        for (int cause = 1; cause <= 4; cause++) {
            g.odds(4, cause, 1, 0, 1);
        }
        g.next(1024);
        g.answer(4, 1);
    }

    private void withoutWeight() {
        anyState();
        due(THROWN, "odd: no weight", g -> oddOf(g, 1, 0));
        due(THROWN, "odd: no weight, below", g -> oddOf(g, 4, 1));
        due(-1, "odd: -1 before the exception", g -> oddOf(g, 5, 0));
        due(-3, "odds: it has an answer", g -> g.odds(4, 1, 0, 0, 1));
        due(-3, "answer: it has one", g -> g.answer(4, 1));
        due(-3, "answer: a need has none", g -> g.answer(2, 0));
        in("without weight", RefusalsTest::noneLeft);
    }

    /** Ways to ask a guide for all of one part of its state; together with a past under 512. */
    private enum Probe {
        LOOK {
            @Override
            void to(GuideSearch g, List<Long> told) {
                look(g, told);
            }
        },
        NEXT_BY_ONE_STEP {
            @Override
            void to(GuideSearch g, List<Long> told) {
                told.add((long) g.next(0));
                look(g, told);
            }
        },
        NEXT_BY_THE_TREE {
            @Override
            void to(GuideSearch g, List<Long> told) {
                told.add((long) g.next(1024));
                look(g, told);
            }
        },
        ODDS_OF_ZERO {
            @Override
            void to(GuideSearch g, List<Long> told) {
                g.learn(0);
                takeOdds(g, 1, told);
            }
        },
        ODDS_OF_ONE {
            @Override
            void to(GuideSearch g, List<Long> told) {
                g.learn(0);
                takeOdds(g, 0, told);
            }
        },
        ANSWERS {
            @Override
            void to(GuideSearch g, List<Long> told) {
                for (int test = 1; test <= 5; test++) {
                    told.add((long) g.odds(test, 1, 0, 0, 1));
                    told.add((long) g.answer(test, 2));
                    addOdd(g, told);
                }
            }
        },
        NEEDS {
            @Override
            void to(GuideSearch g, List<Long> told) {
                for (int test = 5; test >= 1; test--) {
                    told.add((long) g.answer(test, 0));
                }
                for (int test = 1; test <= 5; test++) {
                    for (int other = 5; other >= 1; other--) {
                        told.add((long) g.needs(test, other));
                    }
                }
            }
        },
        LEARNED {
            @Override
            void to(GuideSearch g, List<Long> told) {
                for (int cause = 0; cause <= 12; cause++) {
                    told.add((long) g.learn(cause));
                    addOdd(g, told);
                }
            }
        },
        ROOM {
            @Override
            void to(GuideSearch g, List<Long> told) {
                told.add((long) g.test(1));
                told.add((long) g.fault(1, 2));
                for (int a = 1; a <= 8; a++) {
                    for (int b = a + 1; b <= 8; b++) {
                        told.add((long) g.pair(a, b));
                    }
                }
                addOdd(g, told);
            }
        };

        abstract void to(GuideSearch g, List<Long> told);

        List<Long> ask(GuideSearch g) {
            List<Long> told = new ArrayList<>();
            to(g, told);
            return told;
        }

        private static void addOdd(GuideSearch g, List<Long> told) {
            for (int cause = 1; cause <= 12; cause++) {
                told.add(oddOf(g, cause, 0));
            }
            told.add(oddOf(g, 1, 1));
        }

        private static void look(GuideSearch g, List<Long> told) {
            told.add(g.exact() ? 1L : 0L);
            told.add(g.cost());
            told.add((long) g.tree(-1, 0));
            for (int i = 0; i < 50; i++) {
                for (int what = 0; what < 3; what++) {
                    told.add((long) g.tree(i, what));
                }
            }
            for (int a = 0; a < 3; a++) {
                told.add((long) g.never(a));
            }
            addOdd(g, told);
        }

        /** Tells the odds of answer 2 and of one more by taking the others away, one by one. */
        private static void takeOdds(GuideSearch g, int first, List<Long> told) {
            for (int test = 1; test <= 5; test++) {
                for (int cause = 1; cause <= 12; cause++) {
                    told.add((long) g.odds(test, cause, first, 0, 1));
                    told.add((long) g.odds(test, cause, 2, 0, 1));
                }
            }
        }
    }
}
