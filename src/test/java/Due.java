/** Compares answers with those that are due, prints the wrong ones and counts them. */
final class Due {
    /** A call whose exception, if any, is of interest. */
    interface Call {
        void make();
    }

    private static int checks = 0;
    private static int wrong = 0;
    private static String name = "";

    private Due() {
    }

    /** Runs a test whose wrong answers are printed under a name; it has to look at one answer at least. */
    static void underName(String testName, Call test) {
        name = testName + " | ";
        int before = checks;
        try {
            test.make();
        } catch (RuntimeException e) {
            printWrong("ended by " + e);
        }
        isTrue("some answer is looked at", checks > before);
        name = "";
    }

    private static void printWrong(String text) {
        wrong++;
        System.out.println(name + text);
    }

    static void equal(String what, long got, long want) {
        checks++;
        if (got != want) {
            printWrong(what + " answered " + got + ", due is " + want);
        }
    }

    static void same(String what, String got, String want) {
        checks++;
        if (!got.equals(want)) {
            printWrong(what + " answered " + got + ", due is " + want);
        }
    }

    static void isTrue(String what, boolean got) {
        equal(what, got ? 1 : 0, 1);
    }

    static void isFalse(String what, boolean got) {
        equal(what, got ? 1 : 0, 0);
    }

    /** The class itself is due, not one below it. */
    static void throwing(String what, Class<? extends RuntimeException> want, Call call) {
        checks++;
        String got = "nothing";
        try {
            call.make();
        } catch (RuntimeException e) {
            got = e.getClass().getName();
        }
        if (!got.equals(want.getName())) {
            printWrong(what + " threw " + got + ", due is " + want.getName());
        }
    }

    /** Refused, and nothing that can be asked is changed by it. */
    static void refused(String what, Class<? extends RuntimeException> want, Craft x, Call call) {
        String before = x.look();
        throwing(what, want, call);
        same("what there is behind the refused " + what, x.look(), before);
    }

    static void unsupported(String what, Call call) {
        throwing(what, UnsupportedOperationException.class, call);
    }

    static void badArgument(String what, Call call) {
        throwing(what, IllegalArgumentException.class, call);
    }

    static void badIndex(String what, Call call) {
        throwing(what, IndexOutOfBoundsException.class, call);
    }

    static void badState(String what, Call call) {
        throwing(what, IllegalStateException.class, call);
    }

    /** The last call of a test's main method. */
    static void end() {
        System.out.println(checks + " answers, " + wrong + " of them wrong");
        if (wrong != 0 || checks == 0) {
            System.exit(1);
        }
    }
}
