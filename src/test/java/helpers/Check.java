/** Compares answers with those that are due, prints each wrong one, and ends with exit code 1 if there was one. */
final class Check {
    interface Call {
        long answer();
    }

    private static int right = 0;
    private static int wrong = 0;

    private Check() {
    }

    static void equal(String what, long due, long got) {
        tell(what, Long.toString(due), Long.toString(got));
    }

    static void equal(String what, double due, double got) {
        tell(what, Double.toString(due), Double.toString(got));
    }

    /** Compares an answer or the exception that came instead of it, told as in the issues. */
    static void tell(String what, String due, String got) {
        if (due.equals(got)) {
            right++;
        } else {
            wrong++;
            System.out.println(what + " answered " + got + ", due is " + due);
        }
    }

    static String answerOf(Call call) {
        try {
            return Long.toString(call.answer());
        } catch (RuntimeException e) {
            return "throws." + e.getClass().getSimpleName();
        }
    }

    static void noIndex(String what, Call call) {
        tell(what, "throws.IndexOutOfBoundsException", answerOf(call));
    }

    static void noArgument(String what, Call call) {
        tell(what, "throws.IllegalArgumentException", answerOf(call));
    }

    static void noState(String what, Call call) {
        tell(what, "throws.IllegalStateException", answerOf(call));
    }

    static void finish(String name) {
        System.out.println(name + ": " + right + " answers as due, " + wrong + " not");
        if (wrong != 0 || right == 0) {
            System.exit(1);
        }
    }
}
