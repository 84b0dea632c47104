/** Counts and prints the answers that are not the ones that are due. */
final class Due {
    private int wrong = 0;

    void is(String call, long got, long want) {
        if (got != want) {
            report(call, String.valueOf(got), String.valueOf(want));
        }
    }

    void is(String call, boolean got, boolean want) {
        if (got != want) {
            report(call, String.valueOf(got), String.valueOf(want));
        }
    }

    void is(String call, String got, String want) {
        if (!got.equals(want)) {
            report(call, got, want);
        }
    }

    void illegalArgument(String call, Runnable run) {
        is(call, thrownBy(run), "IllegalArgumentException");
    }

    void illegalState(String call, Runnable run) {
        is(call, thrownBy(run), "IllegalStateException");
    }

    void outOfBounds(String call, Runnable run) {
        is(call, thrownBy(run), "IndexOutOfBoundsException");
    }

    int wrong() {
        return wrong;
    }

    void end() {
        System.out.println(wrong == 0 ? "all answers are as due" : wrong + " answers are not as due");
        if (wrong != 0) {
            System.exit(1);
        }
    }

    private void report(String call, String got, String want) {
        wrong++;
        System.out.println(call + " answered " + got + ", due is " + want);
    }

    private static String thrownBy(Runnable run) {
        try {
            run.run();
            return "nothing thrown";
        } catch (RuntimeException e) {
            return e.getClass().getSimpleName();
        }
    }
}
