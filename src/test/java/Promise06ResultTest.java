/** Promise 6: the SUM of TASK 0 and the TOTAL of the ROOT SCOPE, when the RUN is OVER. */
public final class Promise06ResultTest {
    public static void main(String[] args) {
        addsTheRootTotal();
        refusesBeforeTheEnd();
        refusesWithACode();
        Check.end();
    }

    private static void addsTheRootTotal() {
        Check.same("an empty body", -3, Script.resultOf(-3, ""));
        Check.same("what task 0 gives itself", 12, Script.resultOf(6, "GIVE"));
        Check.same("what others give", 111,
            Script.resultOf(1, "ASYNC 1, ASYNC 2", "TIMES 10, GIVE", "TIMES 100, GIVE"));
        Check.same("what others have without giving", 1, Script.resultOf(1, "ASYNC 1", "ADD 50"));
        Check.same("it wraps", 1, Script.resultOf(Integer.MAX_VALUE, "GIVE, ADD 3"));
    }

    private static void refusesBeforeTheEnd() {
        PhaserYard yard = Script.yard("ASYNC 1", "ADD 1");
        Check.refuses("result() with nothing begun", IllegalStateException.class, () -> yard.result());
        yard.begin(0, 8, 1, 0);
        Check.refuses("result() before a tick", IllegalStateException.class, () -> yard.result());
        yard.run(3);
        Script.isState("task 0 alone is at its end", yard, 0, Script.DONE);
        Check.refuses("result() with a task left", IllegalStateException.class, () -> yard.result());
        Check.same("run(3)", 1, yard.run(3));
        Check.same("result at the end", 8, yard.result());
    }

    private static void refusesWithACode() {
        PhaserYard yard = Script.yard("ASYNC 1, GET 0", "THROW 12", "ASYNC 1, ADD 1");
        yard.begin(0, 0, 1, 0);
        Check.refuses("run(200) is stuck", UnsupportedOperationException.class, () -> yard.run(200));
        Check.refuses("a code is there, but it is not over", IllegalStateException.class, () -> yard.result());
        yard.begin(2, 0, 1, 0);
        Check.same("run(200)", 1, yard.run(200));
        Check.refuses("result() with a code of another task", ArithmeticException.class, () -> yard.result());
        yard.begin(1, 0, 1, 0);
        Check.same("run(200)", 1, yard.run(200));
        Check.refuses("result() with a code of task 0", ArithmeticException.class, () -> yard.result());
        yard.begin(7, 3, 1, 0);
        yard.run(200);
        Check.same("the next run has no code", 3, yard.result());
    }
}
