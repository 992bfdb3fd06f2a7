import java.util.function.Consumer;
import java.util.function.Supplier;

/** Counts and prints the answers that are not due. */
final class Check {
    private int wrong = 0;
    private String sentence = "";

    /** Runs the test of one sentence of the document; its failures are told with the sentence. */
    void sentence(String words, Runnable test) {
        sentence = "[" + words + "] ";
        try {
            test.run();
        } catch (RuntimeException e) {
            fail("a call threw " + e + " at " + e.getStackTrace()[0]);
        }
        sentence = "";
    }

    void equal(String what, long got, long due) {
        if (got != due) {
            fail(what + " answered " + got + ", due is " + due);
        }
    }

    void equal(String what, String got, String due) {
        if (!got.equals(due)) {
            fail(what + " answered " + got + ", due is " + due);
        }
    }

    void holds(String what, boolean got) {
        if (!got) {
            fail(what + " does not hold");
        }
    }

    /** The call must throw exactly this exception. */
    void throwsOnly(Class<? extends RuntimeException> due, String call, Runnable thrower) {
        equal(call, outcome(thrower), due.getSimpleName());
    }

    /**
     * The call must throw exactly this exception, and the bench must go on like its twin, which has not had the call.
     */
    void refuses(Supplier<Stairflow> made, Class<? extends RuntimeException> due, String call,
            Consumer<Stairflow> refused) {
        Stairflow bench = made.get();
        throwsOnly(due, call, () -> refused.accept(bench));
        equal("the bench behind " + call, Snapshot.withFuture(bench), Snapshot.withFuture(made.get()));
    }

    void end() {
        if (wrong > 0) {
            System.out.println(wrong + " wrong");
            System.exit(1);
        }
    }

    private static String outcome(Runnable call) {
        try {
            call.run();
            return "nothing thrown";
        } catch (RuntimeException e) {
            return e.getClass().getSimpleName();
        }
    }

    private void fail(String text) {
        wrong++;
        System.out.println(sentence + text);
    }
}
