/** Compares answers with what is due, and ends a test with exit code 1 if one was wrong. */
final class Check {
    private static int wrong = 0;

    private Check() {
    }

    static void same(String what, int due, int got) {
        if (got != due) {
            fail(what + " answered " + got + ", due is " + due);
        }
    }

    static void holds(String what, boolean isSo) {
        if (!isSo) {
            fail(what);
        }
    }

    static void refuses(String what, Class<? extends RuntimeException> due, Runnable call) {
        Class<?> got = null;
        try {
            call.run();
        } catch (RuntimeException e) {
            got = e.getClass();
        }
        if (got != due) {
            fail(what + " threw " + got + ", due is " + due);
        }
    }

    static void fail(String text) {
        wrong++;
        System.out.println(text);
    }

    static void end() {
        if (wrong > 0) {
            System.out.println(wrong + " answers are not as due");
            System.exit(1);
        }
    }
}
