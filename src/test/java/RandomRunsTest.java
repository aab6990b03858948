import java.util.Random;

/**
 * What must hold in every RUN, over random BODIES; the seeds are fixed, so each test run is the same.
 * It makes more than 512 calls on an object: the document promises nothing then, but the program
 * does not count calls, and so it can be watched in every TICK.
 */
public final class RandomRunsTest {
    private static final int ROUNDS = 3000;
    private static final int[] GREATEST_A = {9, 4, 7, 7, 63, 0, 0, 3, 3, 31, 7, 1, 0, 99, 0, 15, 15};
    /** Ops that bring tasks together come more often than those that end them. */
    private static final int[] OPS = {
        0, 0, 1, 2, 2, 2, 3, 3, 3, 4, 4, 5, 5, 6, 6, 7, 8, 9, 9, 10, 10, 10, 11, 12, 12, 12, 12, 13, 14, 14, 15, 16};

    private static int ended = 0;
    private static int stuck = 0;

    public static void main(String[] args) {
        PhaserYard used = new PhaserYard();
        for (int seed = 0; seed < ROUNDS; seed++) {
            compareRuns(seed, used);
        }
        Check.holds("many runs end: " + ended, ended > ROUNDS / 4);
        Check.holds("some runs are stuck: " + stuck, stuck > ROUNDS / 20);
        Check.end();
    }

    /** One object does single TICKS, the other, used before, does them in one call. */
    private static void compareRuns(int seed, PhaserYard used) {
        PhaserYard fresh = new PhaserYard();
        writeBodies(new Random(seed), fresh);
        writeBodies(new Random(seed), used);
        Random random = new Random(seed);
        int sum = random.nextInt(7) - 3;
        int workers = 1 + random.nextInt(3);
        int policy = random.nextInt(2);
        fresh.begin(0, sum, workers, policy);
        used.begin(0, sum, workers, policy);
        int ticks = 1 + random.nextInt(120);
        int last = 0;
        for (int i = 0; i < ticks && last == 0; i++) {
            last = State.run(fresh, 1);
            looksSound("seed " + seed + " tick " + i, fresh);
        }
        Check.same("seed " + seed + ": run in one call", last, State.run(used, ticks));
        String single = State.of(fresh);
        String whole = State.of(used);
        Check.holds("seed " + seed + ": " + single + " but in one call " + whole, single.equals(whole));
        ended += last == 1 ? 1 : 0;
        stuck += last == State.STUCK ? 1 : 0;
    }

    private static void writeBodies(Random random, PhaserYard yard) {
        for (int b = 0; b < 8; b++) {
            yard.body(b);
            int size = random.nextInt(b == 0 ? 17 : 9);
            for (int i = 0; i < size; i++) {
                int op = OPS[random.nextInt(OPS.length)];
                int least = op == 13 ? 10 : 0;
                yard.add(b, op, least + random.nextInt(GREATEST_A[op] - least + 1));
            }
        }
    }

    private static void looksSound(String what, PhaserYard yard) {
        int[] states = new int[4];
        for (int t = 0; t < yard.count(0); t++) {
            states[yard.task(t, 0)]++;
            boolean isDone = yard.task(t, 0) == Script.DONE;
            Check.holds(what + ": a done task has no scope and no mode",
                !isDone || yard.task(t, 4) + yard.task(t, 5) + yard.task(t, 6) == 0);
            Check.holds(what + ": place", yard.task(t, 2) >= 0 && yard.task(t, 2) <= 16);
        }
        int hands = 0;
        int ready = 0;
        for (int w = 0; w < 3; w++) {
            hands += yard.count(20 + w) >= 0 ? 1 : 0;
            ready += yard.count(30 + w);
        }
        Check.same(what + ": tasks at hand", hands, states[Script.AT_HAND]);
        Check.same(what + ": tasks in deques", ready, states[Script.IN_DEQUE]);
        Check.same(what + ": tasks not done", yard.count(0) - states[Script.DONE], yard.count(1));
        Check.same(what + ": over when all are done", yard.count(1) == 0 ? 1 : 0, yard.count(10));
        dequesHoldReadyTasks(what, yard, 40, yard.count(30));
        dequesHoldReadyTasks(what, yard, 100, yard.count(31));
    }

    private static void dequesHoldReadyTasks(String what, PhaserYard yard, int first, int size) {
        for (int k = 0; k < 48; k++) {
            int t = yard.count(first + k);
            Check.holds(what + ": count(" + (first + k) + ") is " + t,
                k < size ? t >= 0 && yard.task(t, 0) == Script.IN_DEQUE : t == -1);
        }
    }
}
