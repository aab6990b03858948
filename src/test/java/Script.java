import java.util.Collections;
import java.util.List;

/** Writes BODIES by the names of the document's INSTRUCTIONS: "OPEN 0, ASYNC 1, CLOSE". */
final class Script {
    static final int IN_DEQUE = 0;
    static final int AT_HAND = 1;
    static final int WAITS = 2;
    static final int DONE = 3;

    private static final List<String> NAMES = List.of(
        "ADD", "TIMES", "ASYNC", "HANDS", "OPEN", "CLOSE", "GIVE", "PUT", "GET", "WHEN",
        "JOIN", "LEAVE", "NEXT", "THROW", "SAY", "IF", "GOTO");

    private Script() {
    }

    /** A new object with these BODIES, from 0 on. */
    static PhaserYard yard(String... bodies) {
        PhaserYard yard = new PhaserYard();
        for (int b = 0; b < bodies.length; b++) {
            write(yard, b, bodies[b]);
        }
        return yard;
    }

    /** Adds the INSTRUCTIONS of the text to the end of BODY b. */
    static void write(PhaserYard yard, int b, String text) {
        if (text.isEmpty()) {
            return;
        }
        for (String instruction : text.split(", ")) {
            String[] words = instruction.split(" ");
            int op = NAMES.indexOf(words[0]);
            if (op < 0) {
                throw new AssertionError("the test names no instruction: " + instruction);
            }
            yard.add(b, op, words.length > 1 ? Integer.parseInt(words[1]) : 0);
        }
    }

    /** A new object with these BODIES and a RUN of BODY 0. */
    static PhaserYard begun(int sum, int workers, int policy, String... bodies) {
        PhaserYard yard = yard(bodies);
        yard.begin(0, sum, workers, policy);
        return yard;
    }

    /** Such a RUN on one WORKER with POLICY 0, after so many TICKS, or fewer if it is OVER or STUCK then. */
    static PhaserYard ran(int ticks, int sum, String... bodies) {
        PhaserYard yard = begun(sum, 1, 0, bodies);
        runOn(yard, ticks);
        return yard;
    }

    /** As many TICKS more, in calls of at most 200, till it is OVER or STUCK. */
    static void runOn(PhaserYard yard, int ticks) {
        int last = 0;
        for (int left = ticks; left > 0 && last == 0; left -= 200) {
            last = State.run(yard, Math.min(200, left));
        }
    }

    static String repeated(String instruction, int times) {
        return String.join(", ", Collections.nCopies(times, instruction));
    }

    /** BODY 0 alone on one WORKER till it is OVER: its result. */
    static int resultOf(int sum, String... bodies) {
        PhaserYard yard = yard(bodies);
        yard.begin(0, sum, 1, 0);
        yard.run(200);
        return yard.result();
    }

    /** BODY 0 on one WORKER: the least code that came to the ROOT SCOPE. */
    static int codeOf(String... bodies) {
        PhaserYard yard = yard(bodies);
        yard.begin(0, 0, 1, 0);
        yard.run(200);
        return yard.count(7);
    }

    static boolean isCount(int what) {
        return what >= 0 && what <= 10 || what >= 20 && what <= 22 || what >= 30 && what <= 32
            || what >= 40 && what <= 87 || what >= 100 && what <= 147;
    }

    static void isState(String what, PhaserYard yard, int t, int state) {
        Check.same(what + ": state of task " + t, state, yard.task(t, 0));
    }

    static void says(String what, PhaserYard yard, int... numbers) {
        Check.same(what + ": numbers said", numbers.length, yard.count(5));
        for (int k = 0; k < numbers.length && k < yard.count(5); k++) {
            Check.same(what + ": said(" + k + ")", numbers[k], yard.said(k));
        }
    }
}
