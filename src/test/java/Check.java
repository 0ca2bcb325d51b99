/** Counts what was asked and tells each answer that is not the one that is due. */
final class Check {
    private static final int MOST_TOLD = 30;
    private static int asked = 0;
    private static int wrong = 0;

    private Check() {
    }

    interface Call {
        Object answer();
    }

    static void is(String what, Object got, Object due) {
        asked++;
        if (due == null ? got != null : !due.equals(got)) {
            tell(what + " answered " + got + ", due is " + due);
        }
    }

    /** The call throws just that exception, and the digest (few calls: an object has 512) is as ahead of it. */
    static void fails(String what, Class<? extends RuntimeException> due, Stepscout x, Call call) {
        asked++;
        long before = x.digest();
        String got;
        try {
            got = String.valueOf(call.answer());
        } catch (RuntimeException e) {
            got = e.getClass().getSimpleName();
        }
        if (!got.equals(due.getSimpleName())) {
            tell(what + " answered " + got + ", due is " + due.getSimpleName());
        }
        if (x.digest() != before) {
            tell(what + " changed something");
        }
    }

    private static void tell(String line) {
        wrong++;
        if (wrong <= MOST_TOLD) {
            System.out.println(line);
        }
    }

    static void end(String name) {
        System.out.println(name + ": " + asked + " answers asked, " + wrong + " wrong");
        if (wrong != 0) {
            System.exit(1);
        }
    }
}
