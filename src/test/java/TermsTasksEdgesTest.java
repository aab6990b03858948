/** Terms, TASK and SUM: the forty-eighth TASK and the next, and sums and products that wrap. */
public final class TermsTasksEdgesTest {
    private static final int MIN = Integer.MIN_VALUE;
    private static final int MAX = Integer.MAX_VALUE;
    private static final String[] SPAWNS = {"ASYNC 7", "HANDS 7", "WHEN 28"};

    public static void main(String[] args) {
        for (String spawn : SPAWNS) {
            for (int policy = 0; policy <= 1; policy++) {
                fortyEighthIsTaken(spawn, policy);
                fortyNinthThrows(spawn, policy);
                fortyNinthIsNotBegun(spawn, policy);
            }
        }
        thoseThatAreDoneCountToo();
        areNumberedAsTheyAreBegun();
        beginWithAnySum();
        sumsWrap();
        productsWrap();
        Check.end();
    }

    /** A TASK that makes count others, with an own SCOPE whose HANDLER is at PLACE 6. */
    private static PhaserYard making(int count, String spawn, int policy) {
        PhaserYard yard = Script.begun(count, 1, policy, "PUT 0, OPEN 24, ADD -1, " + spawn + ", IF 2, GOTO 15, SAY");
        Script.runOn(yard, 1000);
        return yard;
    }

    private static void fortyEighthIsTaken(String spawn, int policy) {
        PhaserYard yard = making(47, spawn, policy);
        Check.same(spawn + ": tasks", 48, yard.count(0));
        Check.same(spawn + ": over", 1, yard.count(10));
        Check.same(spawn + ": result", 0, yard.result());
        Script.says(spawn + ": no handler was needed", yard);
        Check.same(spawn + ": the last one has the last sum", 0, yard.task(47, 1));
    }

    private static void fortyNinthThrows(String spawn, int policy) {
        PhaserYard yard = making(48, spawn, policy);
        Script.says(spawn + ": the handler has the code", yard, 1);
        Check.same(spawn + ": tasks", 48, yard.count(0));
        Check.same(spawn + ": over", 1, yard.count(10));
        Check.same(spawn + ": result", 1, yard.result());
    }

    private static void fortyNinthIsNotBegun(String spawn, int policy) {
        PhaserYard yard = Script.begun(0, 1, policy, "PUT 0, OPEN 24, " + spawn + ", GOTO 2");
        for (int i = 0; i < 1000 && !isAboutToMakeOneMore(yard); i++) {
            yard.run(1);
        }
        Check.same(spawn + ": tasks before the code", 48, yard.count(0));
        int ready = yard.count(30);
        int unfinished = yard.count(1);
        yard.run(1);
        Check.same(spawn + ": tasks after the code", 48, yard.count(0));
        Check.same(spawn + ": not done after the code", unfinished, yard.count(1));
        Check.same(spawn + ": the deque after the code", ready, yard.count(30));
        Check.same(spawn + ": the maker stays at hand", 0, yard.count(20));
        Check.same(spawn + ": its place stays", 2, yard.task(0, 2));
        Check.same(spawn + ": its scope is open", 1, yard.task(0, 4));
    }

    private static boolean isAboutToMakeOneMore(PhaserYard yard) {
        return yard.count(0) == 48 && yard.count(20) == 0 && yard.task(0, 2) == 2;
    }

    private static void thoseThatAreDoneCountToo() {
        PhaserYard yard = Script.begun(0, 1, 0, "OPEN 0, ASYNC 1, CLOSE, ADD 1, GOTO 0", "");
        Script.runOn(yard, 1000);
        Check.same("over", 1, yard.count(10));
        Check.same("tasks, one after the other", 48, yard.count(0));
        Check.same("rounds", 47, yard.task(0, 1));
        Check.same("the code of the next one", 1, yard.count(7));
    }

    private static void areNumberedAsTheyAreBegun() {
        PhaserYard yard = Script.ran(5, 0, "HANDS 5, WHEN 25, ASYNC 4, GOTO 3");
        int[] bodies = {0, 5, 6, 4};
        for (int t = 0; t < bodies.length; t++) {
            Check.same("body of task " + t, bodies[t], yard.task(t, 3));
            Check.same("first place of task " + t, t == 0 ? 3 : 0, yard.task(t, 2));
            Check.same("own scopes of task " + t, 0, yard.task(t, 4));
        }
    }

    private static void beginWithAnySum() {
        for (int sum : new int[] {MIN, -1, 0, 1, MAX}) {
            PhaserYard yard = Script.ran(4, sum, "ASYNC 1, HANDS 1, WHEN 4");
            for (int t = 1; t <= 3; t++) {
                Check.same("sum of task " + t, sum, yard.task(t, 1));
            }
        }
    }

    private static void sumsWrap() {
        Check.same("one above the greatest", MIN, Script.resultOf(MAX, "ADD 1"));
        Check.same("one below the least", MAX, Script.resultOf(MIN, "ADD -1"));
        Check.same("twice the greatest", -2, Script.resultOf(MAX, "ADD " + MAX));
        Check.same("twice the least", 0, Script.resultOf(MIN, "ADD " + MIN));
        Check.same("the least and the greatest", -1, Script.resultOf(MIN, "ADD " + MAX));
        Check.same("the greatest itself does not", MAX, Script.resultOf(MAX - 1, "ADD 1"));
        Check.same("the least itself does not", MIN, Script.resultOf(MIN + 1, "ADD -1"));
    }

    private static void productsWrap() {
        Check.same("the least times -1", MIN, Script.resultOf(MIN, "TIMES -1"));
        Check.same("the greatest times -1", -MAX, Script.resultOf(MAX, "TIMES -1"));
        Check.same("the greatest times 2", -2, Script.resultOf(MAX, "TIMES 2"));
        Check.same("the greatest times itself", 1, Script.resultOf(MAX, "TIMES " + MAX));
        Check.same("the least times itself", 0, Script.resultOf(MIN, "TIMES " + MIN));
        Check.same("a square below the greatest", 2147395600, Script.resultOf(46340, "TIMES 46340"));
        Check.same("a square above the greatest", -2147479015, Script.resultOf(46341, "TIMES 46341"));
        Check.same("times 0", 0, Script.resultOf(MIN, "TIMES 0"));
        Check.same("times 1", MIN, Script.resultOf(MIN, "TIMES 1"));
    }
}
