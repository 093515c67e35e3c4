/** Compares answers with those that are due, and prints the others. */
final class Due {
    private int wrong = 0;

    void same(String call, long got, long want) {
        if (got != want) {
            wrong++;
            System.out.println(call + " answered " + got + ", due is " + want);
        }
    }

    /** For a call that BAD and FULL both fit: the document names no order of the two. */
    void refused(String call, int got) {
        if (got != ColumnIndex.BAD && got != ColumnIndex.FULL) {
            wrong++;
            System.out.println(call + " answered " + got + ", due is BAD or FULL");
        }
    }

    void holds(String fact, boolean held) {
        if (!held) {
            wrong++;
            System.out.println("does not hold: " + fact);
        }
    }

    boolean anyWrong() {
        return wrong != 0;
    }

    /** Ends the test: exit code 1 if an answer was wrong. */
    void end() {
        System.out.println(wrong == 0 ? "all answers are as due" : wrong + " answers are not as due");
        if (wrong != 0) {
            System.exit(1);
        }
    }
}
