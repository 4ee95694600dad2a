/** Counts and prints the answers that are not the ones that are due. */
final class Check {
    interface Call {
        long answer();
    }

    private static int made = 0;
    private static int wrong = 0;

    private Check() {
    }

    static void due(String what, long want, long got) {
        made++;
        if (want != got) {
            complain(what + " answered " + got + ", due is " + want);
        }
    }

    /** Takes the call itself, so that an exception that is not due is told, too. */
    static void answers(String what, long want, Call call) {
        try {
            due(what, want, call.answer());
        } catch (RuntimeException e) {
            made++;
            complain(what + " threw " + e + ", due is " + want);
        }
    }

    /** The very class is due, and thrown by the class itself: the machine's own words give it away. */
    static void refuses(String what, Class<? extends RuntimeException> want, Call call) {
        made++;
        try {
            complain(what + " answered " + call.answer() + ", due is " + want.getName());
        } catch (RuntimeException e) {
            if (e.getClass() != want || isOfMachine(e)) {
                complain(what + " threw " + e + ", due is " + want.getName());
            }
        }
    }

    static boolean isOfMachine(RuntimeException e) {
        return e.getMessage() != null && e.getMessage().contains("out of bounds for length");
    }

    static void complain(String text) {
        wrong++;
        System.out.println(text);
    }

    static void end() {
        System.out.println(made + " answers looked at, " + wrong + " not as due");
        if (wrong != 0 || made == 0) {
            System.exit(1);
        }
    }
}
