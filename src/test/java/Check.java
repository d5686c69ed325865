/** Counts the answers that are not as due; every test of the project ends with end(). */
final class Check {
    private static int wrong = 0;
    private static int asked = 0;

    private Check() {
    }

    interface Call {
        Object answer();
    }

    interface Deed {
        void go();
    }

    static void is(String what, Object due, Object got) {
        asked++;
        if (!due.equals(got)) {
            wrong++;
            System.out.println(what + ": answered " + got + ", due is " + due);
        }
    }

    static void refuses(String what, Class<? extends RuntimeException> due, Deed deed) {
        is(what, due.getSimpleName(), outcome(() -> {
            deed.go();
            return "nothing thrown";
        }));
    }

    /** The call's answer, or the name of what it throws. */
    static Object outcome(Call call) {
        try {
            return call.answer();
        } catch (RuntimeException e) {
            return e.getClass().getSimpleName();
        }
    }

    static void end() {
        System.out.println(asked + " answers asked, " + wrong + " not as due");
        System.exit(wrong == 0 ? 0 : 1);
    }
}
