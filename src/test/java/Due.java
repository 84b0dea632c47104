/** Counts and prints the answers that are not the ones that are due. */
final class Due {
    private int wrong = 0;
    private int tests = 0;
    private String test = "";

    /** A test of its own for one sentence of the document: what goes wrong in it is told under that name. */
    void test(String sentence, Runnable run) {
        tests++;
        test = sentence + " | ";
        String thrown = thrownBy(run);
        if (!thrown.equals("nothing thrown")) {
            report("the test", thrown, "nothing thrown");
        }
        test = "";
    }

    void is(String call, long got, long want) {
        if (got != want) {
            report(call, String.valueOf(got), String.valueOf(want));
        }
    }

    void is(String call, boolean got, boolean want) {
        if (got != want) {
            report(call, String.valueOf(got), String.valueOf(want));
        }
    }

    void is(String call, String got, String want) {
        if (!got.equals(want)) {
            report(call, got, want);
        }
    }

    void illegalArgument(String call, Runnable run) {
        is(call, thrownBy(run), "IllegalArgumentException");
    }

    void illegalState(String call, Runnable run) {
        is(call, thrownBy(run), "IllegalStateException");
    }

    void outOfBounds(String call, Runnable run) {
        is(call, thrownBy(run), "IndexOutOfBoundsException");
    }

    int wrong() {
        return wrong;
    }

    void end() {
        String of = tests == 0 ? "" : " (" + tests + " tests)";
        System.out.println((wrong == 0 ? "all answers are as due" : wrong + " answers are not as due") + of);
        if (wrong != 0) {
            System.exit(1);
        }
    }

    private void report(String call, String got, String want) {
        wrong++;
        System.out.println(test + call + " answered " + got + ", due is " + want);
    }

    private static String thrownBy(Runnable run) {
        try {
            run.run();
            return "nothing thrown";
        } catch (RuntimeException e) {
            return e.getClass().getSimpleName();
        }
    }
}
