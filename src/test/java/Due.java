/** Counts and prints the answers that are not as due. */
final class Due {
    static final int BAD = -1, FULL = -2, BUSY = -3, NONE = -4;
    static final int LOST = -11, TORN = -12, SIZE = -13, SPAN = -14, KIND = -15, STORE = -16, LONG = -17, SHORT = -18,
            SUM = -19;
    static final int MIN = Integer.MIN_VALUE, MAX = Integer.MAX_VALUE;

    private static int asked;
    private static int wrong;

    private Due() {
    }

    static void is(long got, long due) {
        asked++;
        if (got == due) return;
        wrong++;
        System.out.println(caller() + ": answered " + got + ", due is " + due);
    }

    /** An answer and what status() tells of it. */
    static void is(RollPlayer x, long got, long due, int status) {
        is(got, due);
        is(x.status(), status);
        // Asking must not be an act of its own.
        is(x.status(), status);
    }

    /** That it is refused, and that status() tells why. */
    static void refused(RollPlayer x, long got, long due) {
        is(x, got, due, (int) (due <= -10 ? -10 - due : due == NONE ? 0 : due));
    }

    static void isTrue(boolean it, String what) {
        asked++;
        if (it) return;
        wrong++;
        System.out.println(caller() + ": " + what);
    }

    static void end(String name) {
        System.out.println(name + ": " + asked + " asked, " + wrong + " not as due");
        if (wrong != 0) System.exit(1);
    }

    private static String caller() {
        StringBuilder lines = new StringBuilder();
        for (StackTraceElement e : new Throwable().getStackTrace()) {
            if (e.getClassName().equals("Due")) continue;
            lines.append(lines.length() == 0 ? "" : " < ");
            lines.append(e.getClassName()).append('.').append(e.getMethodName()).append(':').append(e.getLineNumber());
        }
        return lines.toString();
    }
}
