/**
 * All that an object answers, as a text, to compare two objects by. A text takes many calls, so two
 * objects compared by several may get more than 512: nothing is promised then, but the program does
 * not count calls.
 */
final class State {
    /** What run answers here when it throws UnsupportedOperationException. */
    static final int STUCK = -1;

    private State() {
    }

    /** What it answers now; this changes nothing. */
    static String of(PhaserYard yard) {
        StringBuilder text = new StringBuilder();
        counts(yard, text, 0, 10);
        counts(yard, text, 20, 22);
        counts(yard, text, 30, 32);
        counts(yard, text, 40, 40 + yard.count(30));
        counts(yard, text, 100, 100 + yard.count(31));
        for (int t = 0; t < yard.count(0); t++) {
            text.append("| ");
            for (int what = 0; what <= 6; what++) {
                text.append(yard.task(t, what)).append(' ');
            }
        }
        text.append("| ");
        for (int k = 0; k < Math.min(40, yard.count(5)); k++) {
            text.append(yard.said(k)).append(' ');
        }
        for (int f = 0; f < 4; f++) {
            text.append(futureText(yard, f)).append(' ');
        }
        return text.append(resultText(yard)).toString();
    }

    /** What comes of it: of its RUN, then of RUNS of each BODY, and how many INSTRUCTIONS these have. */
    static String later(PhaserYard yard) {
        StringBuilder text = new StringBuilder();
        if (yard.count(0) > 0) {
            text.append(run(yard, 200)).append(": ").append(of(yard)).append('\n');
        }
        for (int b = 0; b < 8; b++) {
            yard.begin(b, 3, 2, 0);
            text.append(run(yard, 60)).append(": ").append(of(yard)).append('\n');
        }
        for (int b = 0; b < 8; b++) {
            text.append(yard.body(b)).append(' ');
        }
        return text.toString();
    }

    static int run(PhaserYard yard, int n) {
        try {
            return yard.run(n);
        } catch (UnsupportedOperationException e) {
            return STUCK;
        }
    }

    private static void counts(PhaserYard yard, StringBuilder text, int first, int last) {
        for (int what = first; what <= last; what++) {
            text.append(yard.count(what)).append(' ');
        }
    }

    private static String futureText(PhaserYard yard, int f) {
        try {
            return Integer.toString(yard.future(f));
        } catch (IllegalStateException e) {
            return "none";
        }
    }

    private static String resultText(PhaserYard yard) {
        try {
            return Integer.toString(yard.result());
        } catch (IllegalStateException e) {
            return "not over";
        } catch (ArithmeticException e) {
            return "a code";
        }
    }
}
