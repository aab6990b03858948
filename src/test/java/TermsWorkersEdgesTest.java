/** Terms, WORKERS: one, two and three, empty and full DEQUES, and who comes behind the last WORKER. */
public final class TermsWorkersEdgesTest {
    public static void main(String[] args) {
        anIdleWorkerDoesNothing();
        aWorkerTakesItsOnlyOne();
        theOnlyOneIsStolen();
        zeroComesBehindTheLast();
        emptyDequesArePassedOver();
        itsOwnComesBeforeTheft();
        stepsOfATickAreByNumber();
        oneWorkerNeverSteals();
        fullDequeIsTakenFromBothEnds();
        policyWithTheLastTask();
        whatWaitsIsInNoDeque();
        Check.end();
    }

    private static void anIdleWorkerDoesNothing() {
        for (int workers = 2; workers <= 3; workers++) {
            PhaserYard yard = Script.begun(0, workers, 0, "GOTO 0");
            yard.run(50);
            Check.same("steps of worker 0 alone", 49, yard.count(3));
            Check.same("stolen", 0, yard.count(4));
            for (int w = 1; w < workers; w++) {
                Check.same("at hand of an idle worker", -1, yard.count(20 + w));
                Check.same("deque of an idle worker", 0, yard.count(30 + w));
            }
        }
    }

    private static void aWorkerTakesItsOnlyOne() {
        for (int workers = 1; workers <= 3; workers++) {
            PhaserYard yard = Script.begun(0, workers, 0, "");
            yard.run(1);
            Check.same("worker 0 takes the only one", 0, yard.count(20));
            Check.same("its deque is empty", 0, yard.count(30));
            Check.same("that is no theft", 0, yard.count(4));
            Check.same("nor a step", 0, yard.count(3));
        }
    }

    private static void theOnlyOneIsStolen() {
        PhaserYard yard = Script.begun(0, 3, 0, "ASYNC 1, GOTO 1", "GOTO 0");
        yard.run(2);
        Check.same("worker 1 is the first to steal", 1, yard.count(21));
        Check.same("worker 2 finds none", -1, yard.count(22));
        Check.same("the deque it came from", 0, yard.count(30));
        Check.same("stolen", 1, yard.count(4));
    }

    /** WORKER 2 is idle while WORKERS 0 and 1 have one each in their DEQUES. */
    private static void zeroComesBehindTheLast() {
        PhaserYard yard = Script.begun(0, 3, 0, "ASYNC 1, ASYNC 2, ASYNC 3, GOTO 3", "ASYNC 3, ADD 1, GOTO 1",
            "ADD 1, GET 0", "GOTO 0");
        yard.run(4);
        Check.same("at hand of worker 2", 2, yard.count(22));
        Check.same("in the deque of worker 0", 4, yard.count(40));
        Check.same("in the deque of worker 1", 3, yard.count(100));
        yard.run(1);
        Check.same("worker 2 is without", -1, yard.count(22));
        yard.run(1);
        Check.same("it stole from worker 0", 4, yard.count(22));
        Check.same("worker 1 keeps its one", 3, yard.count(100));
    }

    private static void emptyDequesArePassedOver() {
        PhaserYard yard = Script.begun(0, 3, 0, "ASYNC 1, GOTO 1", "ASYNC 2, ASYNC 2, GOTO 2", "GOTO 0");
        yard.run(3);
        Check.same("worker 2 passed worker 0 and stole from worker 1", 2, yard.count(22));
        Check.same("stolen", 2, yard.count(4));
    }

    private static void itsOwnComesBeforeTheft() {
        PhaserYard yard = Script.begun(0, 2, 0, "ASYNC 1, ASYNC 2, ASYNC 2, GET 0",
            "ASYNC 2, ASYNC 2, GOTO 2", "GOTO 0");
        yard.run(6);
        Check.same("worker 0 took its own last", 4, yard.count(20));
        Check.same("the first of its own stays", 2, yard.count(40));
        Check.same("stolen by worker 1 alone", 1, yard.count(4));
    }

    private static void stepsOfATickAreByNumber() {
        PhaserYard yard = Script.begun(0, 2, 0, "ASYNC 1, ADD 1, SAY, GOTO 3", "ADD 2, SAY, GOTO 2");
        yard.run(4);
        Script.says("worker 0, then worker 1, in one tick", yard, 1, 2);
        PhaserYard put = Script.begun(5, 2, 0, "ASYNC 1, ADD 1, PUT 0, GOTO 3", "ADD 1, GET 0, GOTO 2");
        put.run(4);
        Script.isState("worker 1 gets what worker 0 put in this tick", put, 1, Script.AT_HAND);
        Check.same("its sum", 12, put.task(1, 1));
        PhaserYard late = Script.begun(5, 2, 0, "ASYNC 1, ADD 1, GET 0, GOTO 3", "ADD 1, PUT 0, GOTO 2");
        late.run(4);
        Script.isState("worker 0 was before worker 1", late, 0, Script.IN_DEQUE);
        Check.same("it is in the deque of worker 1", 0, late.count(100));
    }

    private static void oneWorkerNeverSteals() {
        PhaserYard yard = Script.begun(47, 1, 1, "ASYNC 1, ADD -1, IF 0", "ADD 1");
        Script.runOn(yard, 2000);
        Check.same("over", 1, yard.count(10));
        Check.same("tasks", 48, yard.count(0));
        Check.same("stolen", 0, yard.count(4));
    }

    private static void fullDequeIsTakenFromBothEnds() {
        PhaserYard yard = Script.begun(47, 3, 0, "WHEN 4, ADD -1, IF 0, PUT 0, GOTO 15", "GOTO 0");
        yard.run(1 + 47 * 3);
        Check.same("nothing to steal before the put", 0, yard.count(4));
        yard.run(1);
        Check.same("worker 1 stole the first of 47", 1, yard.count(21));
        Check.same("worker 2 stole the next", 2, yard.count(22));
        Check.same("45 are left", 45, yard.count(30));
        yard.run(2);
        Script.isState("the maker", yard, 0, Script.DONE);
        yard.run(1);
        Check.same("worker 0 took the last of its own", 47, yard.count(20));
        Check.same("the first of those left", 3, yard.count(40));
        Check.same("the last of those left", 46, yard.count(40 + 43));
        Check.same("none behind", -1, yard.count(40 + 44));
    }

    private static void policyWithTheLastTask() {
        PhaserYard yard = Script.begun(0, 1, 1, "ASYNC 0");
        yard.run(1 + 47);
        Check.same("the last task is at hand", 47, yard.count(20));
        Check.same("its makers are in the deque", 47, yard.count(30));
        for (int k = 0; k < 47; k++) {
            Check.same("count(" + (40 + k) + ")", k, yard.count(40 + k));
        }
        yard.run(1);
        Script.isState("one more is not made", yard, 47, Script.DONE);
        Check.same("its code", 1, yard.count(7));
        Check.same("nothing at hand", -1, yard.count(20));
        Script.runOn(yard, 400);
        Check.same("over", 1, yard.count(10));
        Check.same("one code alone", 1, yard.count(6));
    }

    private static void whatWaitsIsInNoDeque() {
        PhaserYard yard = Script.begun(0, 1, 0, "WHEN 4, ASYNC 2, OPEN 0, ASYNC 2, CLOSE", "", "GET 1");
        Script.runOn(yard, 200);
        Check.same("nothing in the deque", 0, yard.count(30));
        Check.same("nothing at hand", -1, yard.count(20));
        for (int t = 0; t < 4; t++) {
            Script.isState("at the end", yard, t, Script.WAITS);
        }
    }
}
