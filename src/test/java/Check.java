/** Counts what is as due and what is not. */
final class Check {
    interface Call {
        void go();
    }

    private static int passed = 0;
    private static int failed = 0;

    private Check() {
    }

    static void due(String what, long got, long want) {
        due(what, Long.toString(got), Long.toString(want));
    }

    static void due(String what, boolean got, boolean want) {
        due(what, Boolean.toString(got), Boolean.toString(want));
    }

    static void due(String what, double got, double want) {
        due(what, Double.toString(got), Double.toString(want));
    }

    /** The very exception is due, not one of a class below it, and thrown by the class itself, not by what it calls. */
    static void dueThrow(String what, Class<? extends RuntimeException> want, Call call) {
        due(what, thrownBy(call), want.getName());
    }

    static void dueNoThrow(String what, Call call) {
        due(what, thrownBy(call), "nothing");
    }

    static void due(String what, String got, String want) {
        if (got.equals(want)) {
            passed++;
        } else {
            failed++;
            System.out.println(what + " answered " + got + ", due is " + want);
        }
    }

    private static String thrownBy(Call call) {
        try {
            call.go();
        } catch (RuntimeException e) {
            StackTraceElement[] trace = e.getStackTrace();
            boolean isOwn = trace.length > 0 && trace[0].getClassName().equals("TimewarpYard");
            return e.getClass().getName() + (isOwn ? "" : " of another class");
        }
        return "nothing";
    }

    static int failures() {
        return failed;
    }

    static void tell() {
        System.out.println(passed + " passed, " + failed + " failed");
    }
}
