import java.util.Objects;

/** Counts what is not as it is due, for the tests of the project. */
final class Check {
    /** A call that may throw. */
    interface Call {
        void run() throws Exception;
    }

    private static int wrong = 0;
    private static int count = 0;

    private Check() {
    }

    static void same(String what, Object due, Object got) {
        count++;
        if (!Objects.equals(due, got)) {
            tell(what + ": due is " + due + ", the answer was " + got);
        }
    }

    static void yes(String what, boolean got) {
        same(what, true, got);
    }

    static void no(String what, boolean got) {
        same(what, false, got);
    }

    /** The call must throw just this class, and from a line of SpecBoard's own. */
    static void fails(String what, Class<? extends Exception> due, Call call) {
        count++;
        try {
            call.run();
            tell(what + ": due is " + due.getName() + ", nothing was thrown");
        } catch (Exception thrown) {
            if (thrown.getClass() != due) {
                tell(what + ": due is " + due.getName() + ", thrown was " + thrown);
            } else if (!isOwn(thrown)) {
                tell(what + ": the machine or the library threw " + thrown);
            }
        }
    }

    static boolean isOwn(Exception thrown) {
        StackTraceElement[] trace = thrown.getStackTrace();
        return trace.length > 0 && trace[0].getClassName().startsWith("SpecBoard");
    }

    static void tell(String text) {
        wrong++;
        if (wrong <= 40) {
            System.out.println(text);
        }
    }

    static void end() {
        System.out.println(count + " answers looked at, " + wrong + " not as due");
        if (wrong != 0 || count == 0) {
            System.exit(1);
        }
    }
}
