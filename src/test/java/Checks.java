/** Counts what is not as due, and names it. */
final class Checks {
    static final String IAE = "IllegalArgumentException";
    static final String IOOBE = "IndexOutOfBoundsException";
    static final String ISE = "IllegalStateException";

    interface Call {
        Object answer();
    }

    private int made = 0;
    private int wrong = 0;

    /**
     * The answer as a text, or throws.Name of the exact class that came. An exception that the machine or the
     * library threw, and not a throw of the program, is told as such, so it is never as due.
     */
    static String answerOf(Call call) {
        try {
            return String.valueOf(call.answer());
        } catch (RuntimeException e) {
            String by = e.getStackTrace().length == 0 ? "nobody" : e.getStackTrace()[0].getClassName();
            return "throws." + e.getClass().getSimpleName() + (by.startsWith("SnowFences") ? "" : " by " + by);
        }
    }

    void due(String what, Object want, Call call) {
        made++;
        String got = answerOf(call);
        if (!got.equals(String.valueOf(want))) {
            wrong++;
            System.out.println(what + ": answered " + got + ", due is " + want);
        }
    }

    /** The call throws just this exception, and nothing of x is changed by it. */
    void refused(String what, String exception, SnowFences x, Call call) {
        long before = x.digest();
        due(what, "throws." + exception, call);
        due(what + " changes nothing", before, x::digest);
    }

    void end() {
        System.out.println(made + " checks, " + wrong + " wrong");
        if (wrong != 0) {
            System.exit(1);
        }
    }
}
