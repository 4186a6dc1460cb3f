/** Counts what is not as due; every test ends by {@link #end}. */
final class Check {
    /** A call that may throw. */
    interface Call {
        long answer();
    }

    /** A call without an answer. */
    interface Deed {
        void act();
    }

    private final String test;
    private int asked = 0;
    private int wrong = 0;

    Check(String test) {
        this.test = test;
    }

    void due(String what, long got, long want) {
        asked++;
        if (got != want) {
            say(what + " answered " + got + ", due is " + want);
        }
    }

    void dueText(String what, String got, String want) {
        asked++;
        if (!got.equals(want)) {
            say(what + " answered " + got + ", due is " + want);
        }
    }

    void throwsDue(String what, Class<? extends RuntimeException> want, Deed deed) {
        dueText(what, outcome(() -> {
            deed.act();
            return 0;
        }), "throws." + want.getSimpleName());
    }

    void end() {
        System.out.println(test + ": " + asked + " asked, " + wrong + " wrong");
        if (wrong != 0 || asked == 0) {
            System.exit(1);
        }
    }

    static String outcome(Call call) {
        try {
            return Long.toString(call.answer());
        } catch (RuntimeException e) {
            return "throws." + e.getClass().getSimpleName();
        }
    }

    private void say(String text) {
        wrong++;
        if (wrong <= 20) {
            System.out.println(test + ": " + text);
        }
    }
}
