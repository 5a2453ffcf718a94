import java.util.concurrent.Callable;

/** Counts checks; a failed one is printed. */
final class Checks {
    private int passed;
    private int failed;

    void is(String what, long got, long due) {
        note(got == due, what + " answered " + got + ", due is " + due);
    }

    void is(String what, double got, double due) {
        note(Double.compare(got, due) == 0, what + " answered " + got + ", due is " + due);
    }

    void is(String what, String got, String due) {
        note(got.equals(due), what + " answered " + got + ", due is " + due);
    }

    void yes(String what, boolean got) {
        note(got, what + " does not hold");
    }

    /** The call throws exactly this exception, by a throw statement of the class, and changes nothing. */
    void fails(String what, Class<? extends RuntimeException> due, Unwindlens lens, Callable<?> call) {
        String before = Digest.of(lens);
        String got = "nothing";
        boolean own = false;
        try {
            call.call();
        } catch (Exception e) {
            got = e.getClass().getName();
            StackTraceElement[] trace = e.getStackTrace();
            own = trace.length > 0 && trace[0].getClassName().startsWith("Unwindlens");
        }
        note(got.equals(due.getName()) && own, what + " threw " + got + ", due is " + due.getName());
        is(what + " changes nothing", Digest.of(lens), before);
    }

    private void note(boolean right, String what) {
        if (right) {
            passed++;
        } else {
            failed++;
            System.out.println("wrong: " + what);
        }
    }

    /** Prints the counts; ends the program with exit code 1 if something failed. */
    void end(String name) {
        System.out.println(name + ": " + passed + " passed, " + failed + " failed");
        if (failed != 0 || passed == 0) {
            System.exit(1);
        }
    }
}
