/** Counts and prints the answers that are not due. */
final class Check {
    private int wrong = 0;

    void equal(String what, long got, long due) {
        if (got != due) {
            fail(what + " answered " + got + ", due is " + due);
        }
    }

    void equal(String what, String got, String due) {
        if (!got.equals(due)) {
            fail(what + " answered " + got + ", due is " + due);
        }
    }

    void holds(String what, boolean got) {
        if (!got) {
            fail(what + " does not hold");
        }
    }

    /** The call must throw exactly this exception and leave every answer of the bench as it was. */
    void refuses(Stairflow bench, Class<? extends RuntimeException> due, String what, Runnable call) {
        String before = Snapshot.of(bench);
        equal(what, outcome(call), due.getSimpleName());
        equal("all answers after " + what, Snapshot.of(bench), before);
    }

    void end() {
        if (wrong > 0) {
            System.out.println(wrong + " wrong");
            System.exit(1);
        }
    }

    private static String outcome(Runnable call) {
        try {
            call.run();
            return "nothing thrown";
        } catch (RuntimeException e) {
            return e.getClass().getSimpleName();
        }
    }

    private void fail(String text) {
        wrong++;
        System.out.println(text);
    }
}
