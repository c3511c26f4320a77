/** Counts the answers of one test that are not the ones that are due. */
final class Check {
    /** A call that may throw. */
    interface Call {
        long answer();
    }

    private static int checked = 0;
    private static int wrong = 0;
    private static String about = "";

    private Check() {
    }

    /** What the answers to come are about, told with those that are wrong. */
    static void about(String topic) {
        about = "[" + topic + "] ";
    }

    static int answers() {
        return checked;
    }

    static void due(String what, long want, long got) {
        checked++;
        if (got != want) {
            report(what, Long.toString(got), Long.toString(want));
        }
    }

    static void due(String what, boolean want, boolean got) {
        due(what, want ? 1 : 0, got ? 1 : 0);
    }

    static void due(String what, String want, String got) {
        checked++;
        if (!want.equals(got)) {
            report(what, got, want);
        }
    }

    static void noIndex(String what, Call call) {
        due(what, "IndexOutOfBoundsException", outcome(call));
    }

    static void noArgument(String what, Call call) {
        due(what, "IllegalArgumentException", outcome(call));
    }

    static void noState(String what, Call call) {
        due(what, "IllegalStateException", outcome(call));
    }

    /** The answer as a text, or the simple name of the very class that was thrown. */
    static String outcome(Call call) {
        try {
            return Long.toString(call.answer());
        } catch (RuntimeException thrown) {
            return thrown.getClass().getSimpleName();
        }
    }

    /** Runs the parts of a test; one that ends with an exception counts as wrong, and the next ones are still run. */
    static void parts(Runnable... parts) {
        for (Runnable part : parts) {
            try {
                part.run();
            } catch (RuntimeException | AssertionError thrown) {
                StackTraceElement[] places = thrown.getStackTrace();
                report("a call " + (places.length > 0 ? "that ended in " + places[0] : ""), thrown.toString(), "no exception");
            }
        }
    }

    static void report(String what, String got, String want) {
        wrong++;
        if (wrong <= 40) {
            System.out.println(about + what + " answered " + got + ", due is " + want);
        }
    }

    static void end(String name) {
        System.out.println(name + ": " + checked + " answers, " + wrong + " not as due");
        if (wrong != 0 || checked == 0) {
            System.exit(1);
        }
    }
}
