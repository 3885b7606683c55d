/** Counts the answers of a test program that are not the due ones, and ends it accordingly. */
final class Check {
    private int wrong = 0;
    private int asked = 0;

    void due(String call, long got, long want) {
        asked++;
        if (got != want) {
            wrong++;
            System.out.println(call + " answered " + got + ", due is " + want);
        }
    }

    void due(String call, boolean got, boolean want) {
        due(call, got ? 1 : 0, want ? 1 : 0);
    }

    /** odd() of a cause, both sides. */
    void dueOdd(String call, GuideSearch guide, int cause, long above, long below) {
        dueNoThrow(call + " above", guide, cause, 0, above);
        dueNoThrow(call + " below", guide, cause, 1, below);
    }

    void dueNoThrow(String call, GuideSearch guide, int cause, int side, long want) {
        try {
            due(call, guide.odd(cause, side), want);
        } catch (ArithmeticException e) {
            due(call + " throws", 1, 0);
        }
    }

    void dueThrow(String call, GuideSearch guide, int cause, int side) {
        boolean thrown = false;
        try {
            guide.odd(cause, side);
        } catch (ArithmeticException e) {
            thrown = true;
        }
        due(call + " throws ArithmeticException", thrown, true);
    }

    int asked() {
        return asked;
    }

    void endIfWrong() {
        if (wrong != 0) {
            end();
        }
    }

    void end() {
        System.out.println(asked + " answers looked at, " + wrong + " of them wrong");
        if (wrong != 0 || asked == 0) {
            System.exit(1);
        }
    }
}
