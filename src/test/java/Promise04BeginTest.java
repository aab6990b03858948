/** Promise 4: begin starts a RUN anew with TASK 0 in the DEQUE of WORKER 0. */
public final class Promise04BeginTest {
    private static final int MIN = Integer.MIN_VALUE;
    private static final int MAX = Integer.MAX_VALUE;

    public static void main(String[] args) {
        taskZeroStands();
        forgetsTheRunBefore();
        startsAnewInTheMiddle();
        refusesWrongNumbers();
        Check.end();
    }

    private static void taskZeroStands() {
        for (int sum : new int[] {0, -9, MIN, MAX}) {
            PhaserYard yard = new PhaserYard();
            yard.begin(7, sum, 3, 1);
            Script.isState("begin", yard, 0, Script.IN_DEQUE);
            Check.same("its sum", sum, yard.task(0, 1));
            Check.same("its place", 0, yard.task(0, 2));
            Check.same("its body", 7, yard.task(0, 3));
            Check.same("tasks", 1, yard.count(0));
            Check.same("deque of worker 0", 1, yard.count(30));
            Check.same("first in the deque of worker 0", 0, yard.count(40));
            Check.same("at hand of worker 0", -1, yard.count(20));
        }
    }

    private static void forgetsTheRunBefore() {
        PhaserYard yard = Script.yard("JOIN 1, JOIN 5, NEXT, PUT 3, GIVE, SAY, ASYNC 1, OPEN 0, THROW 20", "ADD 1");
        yard.begin(0, 6, 3, 0);
        yard.run(200);
        Check.same("phase 0 of the first run", 1, yard.count(8));
        yard.begin(7, 4, 1, 0);
        for (int what : new int[] {2, 3, 4, 5, 6, 7, 8, 9, 10}) {
            Check.same("count(" + what + ") of the new run", 0, yard.count(what));
        }
        Check.refuses("future(3) of the new run", IllegalStateException.class, () -> yard.future(3));
        Check.refuses("said(0) of the new run", IndexOutOfBoundsException.class, () -> yard.said(0));
        Check.refuses("task(1, 0) of the new run", IndexOutOfBoundsException.class, () -> yard.task(1, 0));
        Check.same("run(2)", 1, yard.run(2));
        Check.same("result without the total before", 4, yard.result());
    }

    private static void startsAnewInTheMiddle() {
        PhaserYard yard = Script.yard("JOIN 3, OPEN 0, ASYNC 1, ASYNC 1, CLOSE", "JOIN 6, GET 0");
        yard.begin(0, 1, 3, 1);
        yard.run(5);
        yard.begin(0, 2, 1, 0);
        Check.same("tasks after begin in the middle", 1, yard.count(0));
        Check.same("own scopes of task 0", 0, yard.task(0, 4));
        Check.same("mode of task 0", 0, yard.task(0, 5));
        for (int w = 0; w < 3; w++) {
            Check.same("nothing at hand of worker " + w, -1, yard.count(20 + w));
            Check.same("deque of worker " + w, w == 0 ? 1 : 0, yard.count(30 + w));
        }
        Check.refuses("the new run is stuck", UnsupportedOperationException.class, () -> yard.run(200));
        Check.same("its three tasks", 3, yard.count(0));
    }

    private static void refusesWrongNumbers() {
        PhaserYard yard = Script.yard("ADD 1");
        yard.begin(0, 5, 2, 0);
        yard.run(1);
        for (int b : new int[] {-1, 8, MIN, MAX}) {
            refuses(yard, b, 1, 0);
        }
        for (int workers : new int[] {-1, 0, 4, MIN, MAX}) {
            refuses(yard, 0, workers, 0);
        }
        for (int policy : new int[] {-1, 2, MIN, MAX}) {
            refuses(yard, 0, 1, policy);
        }
        Check.same("ticks of the run that goes on", 1, yard.count(2));
        Check.same("run(2) of it", 1, yard.run(2));
        Check.same("its result", 6, yard.result());
    }

    private static void refuses(PhaserYard yard, int b, int workers, int policy) {
        Check.refuses("begin(" + b + ", 0, " + workers + ", " + policy + ")", IllegalArgumentException.class,
            () -> yard.begin(b, 0, workers, policy));
    }
}
