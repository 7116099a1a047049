/** Counts the answers that are not as due, prints them, and ends a test's run with exit code 1 if there are any. */
final class Check {
    private int wrong;
    private int asked;

    void is(String what, Object got, Object due) {
        asked++;
        if (!due.equals(got)) {
            report(what + " answered " + got + ", due is " + due);
        }
    }

    /** Exactly this exception is due, so a subclass of it counts as wrong too. */
    void fails(String what, Class<? extends RuntimeException> due, Runnable call) {
        asked++;
        try {
            call.run();
            report(what + " threw nothing, due is " + due.getSimpleName());
        } catch (RuntimeException e) {
            if (e.getClass() != due) {
                report(what + " threw " + e + ", due is " + due.getSimpleName());
            } else if (isThrownByMachine(e)) {
                report(what + " let the machine throw " + e);
            }
        }
    }

    void finish(String suite) {
        System.out.println(suite + ": " + asked + " checks, " + wrong + " wrong");
        if (wrong != 0 || asked == 0) {
            System.exit(1);
        }
    }

    private void report(String text) {
        wrong++;
        System.out.println("WRONG " + text);
    }

    /** What the machine or the library throws stands outside LockQuorum or bears a text of its own. */
    private static boolean isThrownByMachine(RuntimeException e) {
        StackTraceElement[] trace = e.getStackTrace();
        String text = e.getMessage();
        boolean isFromLibrary = trace.length > 0 && !trace[0].getClassName().startsWith("LockQuorum");
        return isFromLibrary || text != null && (text.startsWith("Index ") || text.equals("/ by zero"));
    }
}
