/** Counts what was asked and tells each answer that is not the one that is due. */
final class Check {
    private static final int MOST_TOLD = 30;
    private static int asked = 0;
    private static int wrong = 0;

    private Check() {
    }

    interface Call {
        Object answer();
    }

    static void is(String what, Object got, Object due) {
        asked++;
        if (due == null ? got != null : !due.equals(got)) {
            tell(what + " answered " + got + ", due is " + due);
        }
    }

    /** The call throws just that exception, and the object answers like ahead of it. */
    static void fails(String what, Class<? extends RuntimeException> due, Stepscout x, Call call) {
        asked++;
        String before = face(x);
        String got;
        try {
            got = String.valueOf(call.answer());
        } catch (RuntimeException e) {
            got = e.getClass().getSimpleName();
        }
        if (!got.equals(due.getSimpleName())) {
            tell(what + " answered " + got + ", due is " + due.getSimpleName());
        }
        String after = face(x);
        if (!before.equals(after)) {
            tell(what + " changed " + before + " to " + after);
        }
    }

    /** What a digest does not tell by itself: where the WALLS and the POSSIBLE PLACES lie. */
    private static String face(Stepscout x) {
        StringBuilder text = new StringBuilder();
        text.append(x.digest());
        for (int robot = 0; robot < x.yard(4); robot++) {
            text.append(' ').append(x.way(robot)).append(' ').append(x.sure(robot));
        }
        for (int row = 0; row < 8 && x.yard(4) > 0; row++) {
            text.append(' ').append(x.row(row, 0));
        }
        return text.toString();
    }

    private static void tell(String line) {
        wrong++;
        if (wrong <= MOST_TOLD) {
            System.out.println(line);
        }
    }

    static void end(String name) {
        System.out.println(name + ": " + asked + " answers asked, " + wrong + " wrong");
        if (wrong != 0) {
            System.exit(1);
        }
    }
}
