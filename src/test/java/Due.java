/** Compares answers with those that are due, prints the wrong ones and counts them. */
final class Due {
    /** A call whose exception, if any, is of interest. */
    interface Call {
        void make();
    }

    private static int checks = 0;
    private static int wrong = 0;

    private Due() {
    }

    static void equal(String what, long got, long want) {
        checks++;
        if (got != want) {
            wrong++;
            System.out.println(what + " answered " + got + ", due is " + want);
        }
    }

    static void isTrue(String what, boolean got) {
        equal(what, got ? 1 : 0, 1);
    }

    static void isFalse(String what, boolean got) {
        equal(what, got ? 1 : 0, 0);
    }

    /** The class itself is due, not one below it. */
    static void throwing(String what, Class<? extends RuntimeException> want, Call call) {
        checks++;
        String got = "nothing";
        try {
            call.make();
        } catch (RuntimeException e) {
            got = e.getClass().getName();
        }
        if (!got.equals(want.getName())) {
            wrong++;
            System.out.println(what + " threw " + got + ", due is " + want.getName());
        }
    }

    static void unsupported(String what, Call call) {
        throwing(what, UnsupportedOperationException.class, call);
    }

    static void badArgument(String what, Call call) {
        throwing(what, IllegalArgumentException.class, call);
    }

    static void badIndex(String what, Call call) {
        throwing(what, IndexOutOfBoundsException.class, call);
    }

    static void badState(String what, Call call) {
        throwing(what, IllegalStateException.class, call);
    }

    /** The last call of a test's main method. */
    static void end() {
        System.out.println(checks + " answers, " + wrong + " of them wrong");
        if (wrong != 0 || checks == 0) {
            System.exit(1);
        }
    }
}
