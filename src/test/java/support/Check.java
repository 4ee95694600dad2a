/**
 * Looks at answers, sentence by sentence of the document, and prints those that are not the ones that are due.
 * Every sentence is a test of its own: one that fails, or throws, does not keep the next ones from being tried.
 */
final class Check {
    interface Call {
        long answer();
    }

    interface Case {
        void look();
    }

    private static String sentence = "";
    private static int sentences = 0;
    private static int made = 0;
    private static int wrong = 0;

    private Check() {
    }

    static void sentence(String words, Case look) {
        sentence = words;
        sentences++;
        int before = made;
        try {
            look.look();
        } catch (RuntimeException e) {
            complain("the test threw " + e);
        }
        if (made == before) {
            complain("the test looked at nothing");
        }
    }

    static void due(String what, long want, long got) {
        made++;
        if (want != got) {
            complain(what + " answered " + got + ", due is " + want);
        }
    }

    static void same(String what, String want, String got) {
        made++;
        if (!want.equals(got)) {
            complain(what + " answered " + got + ", due is " + want);
        }
    }

    /** Takes the call itself, so that an exception that is not due is told, too. */
    static void answers(String what, long want, Call call) {
        try {
            due(what, want, call.answer());
        } catch (RuntimeException e) {
            made++;
            complain(what + " threw " + e + ", due is " + want);
        }
    }

    /** The very class is due, and thrown by the class itself: the machine's own words give it away. */
    static void refuses(String what, Class<? extends RuntimeException> want, Call call) {
        same(what, want.getName(), outcome(call));
    }

    /** The answer, or the class of what was thrown; of what the machine threw, its words as well. */
    static String outcome(Call call) {
        try {
            return Long.toString(call.answer());
        } catch (RuntimeException e) {
            return isOfMachine(e) ? "by the machine: " + e : e.getClass().getName();
        }
    }

    /** What the machine throws has words of its own, or, where it has thrown it often, neither words nor a trace. */
    private static boolean isOfMachine(RuntimeException e) {
        return e.getStackTrace().length == 0
                || e.getMessage() != null && e.getMessage().contains("out of bounds for length");
    }

    private static void complain(String text) {
        wrong++;
        System.out.println(sentence + ": " + text);
    }

    static void end() {
        System.out.println(sentences + " sentences, " + made + " answers looked at, " + wrong + " not as due");
        if (wrong != 0 || made == 0) {
            System.exit(1);
        }
    }
}
