/** Promise 4: the last number taken and the first refused of each that begin has, and begin after all was full. */
public final class Promise04EdgesTest {
    private static final int MIN = Integer.MIN_VALUE;
    private static final int MAX = Integer.MAX_VALUE;

    public static void main(String[] args) {
        takesTheLastOnBothSides();
        hasSoManyWorkers();
        hasThePolicy();
        refusesTheNextOnBothSides();
        beginsAnewAfterAFullRun();
        beginsAnewAfterEveryEnd();
        beginsAnewWithEmptyScopes();
        Check.end();
    }

    private static void takesTheLastOnBothSides() {
        for (int b : new int[] {0, 7}) {
            for (int sum : new int[] {MIN, -1, 0, 1, MAX}) {
                PhaserYard yard = new PhaserYard();
                yard.begin(b, sum, 1, 0);
                Check.same("body", b, yard.task(0, 3));
                Check.same("sum", sum, yard.task(0, 1));
                yard.run(200);
                Check.same("result", sum, yard.result());
            }
        }
    }

    private static void hasSoManyWorkers() {
        for (int workers = 1; workers <= 3; workers++) {
            PhaserYard yard = Script.begun(0, workers, 0, Script.repeated("ASYNC 1", 5) + ", GOTO 5", "GOTO 0");
            yard.run(20);
            for (int w = 0; w < 3; w++) {
                Check.holds(workers + " workers: worker " + w, w < workers == yard.count(20 + w) >= 0);
            }
            Check.same(workers + " workers: stolen", workers - 1, yard.count(4));
        }
    }

    private static void hasThePolicy() {
        for (int policy = 0; policy <= 1; policy++) {
            PhaserYard yard = Script.begun(0, 1, policy, "ASYNC 1");
            yard.run(2);
            Check.same("policy " + policy + ": at hand", policy, yard.count(20));
            Check.same("policy " + policy + ": in the deque", 1 - policy, yard.count(40));
        }
    }

    private static void refusesTheNextOnBothSides() {
        for (int b : new int[] {-1, 8, MIN, MAX}) {
            refuses(b, 1, 0);
        }
        for (int workers : new int[] {0, 4, -1, MIN, MAX}) {
            refuses(0, workers, 0);
        }
        for (int policy : new int[] {-1, 2, MIN, MAX}) {
            refuses(0, 1, policy);
        }
        refuses(8, 0, 2);
    }

    private static void beginsAnewAfterAFullRun() {
        String[] bodies = {
            "JOIN 3, JOIN 7, PUT 0, PUT 1, PUT 2, PUT 3, OPEN 0, OPEN 0, OPEN 0, SAY, HANDS 1, ADD -1, IF 9",
            "NEXT, THROW 10"};
        PhaserYard yard = Script.begun(47, 3, 1, bodies);
        Script.runOn(yard, 1000);
        Check.same("tasks of the full run", 48, yard.count(0));
        Check.same("numbers said in the full run", 47, yard.count(5));
        String full = State.of(yard);
        yard.begin(0, 47, 3, 1);
        PhaserYard anew = Script.begun(47, 3, 1, bodies);
        Check.holds("begun anew as by a new object", State.of(anew).equals(State.of(yard)));
        Script.runOn(yard, 1000);
        Check.holds("the same run again", full.equals(State.of(yard)));
    }

    private static void beginsAnewAfterEveryEnd() {
        PhaserYard yard = Script.yard("ADD 1", "GET 0", "GOTO 0", "THROW 10");
        for (int before = 0; before < 4; before++) {
            yard.begin(before, 0, 3, 0);
            State.run(yard, 20);
            yard.begin(0, 5, 1, 0);
            Check.same("after a run of body " + before, 1, yard.run(3));
            Check.same("its result", 6, yard.result());
        }
    }

    private static void beginsAnewWithEmptyScopes() {
        PhaserYard yard = Script.yard("OPEN 0, ASYNC 1, OPEN 0, ASYNC 1, OPEN 0, ASYNC 1, CLOSE", "GET 0",
            "OPEN 0, OPEN 0, OPEN 0, CLOSE, CLOSE, CLOSE");
        yard.begin(0, 5, 1, 0);
        Check.same("three scopes with a task in each: run(7)", 0, yard.run(7));
        yard.begin(2, 5, 1, 0);
        Check.same("the next run waits for none of these", 1, yard.run(200));
        Check.same("its result", 5, yard.result());
    }

    private static void refuses(int b, int workers, int policy) {
        for (Refusal where : Refusal.everywhere()) {
            where.changesNothing("begin(" + b + ", 1, " + workers + ", " + policy + ")",
                IllegalArgumentException.class, yard -> yard.begin(b, 1, workers, policy));
        }
    }
}
