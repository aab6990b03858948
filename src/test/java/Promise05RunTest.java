/** Promise 5: run does at most n TICKS, till the RUN is OVER, and refuses one that is STUCK. */
public final class Promise05RunTest {
    public static void main(String[] args) {
        doesSoManyTicks();
        endsWhenItIsOver();
        refusesWrongNumbers();
        refusesAStuckRun();
        isStuckAtTheEndToo();
        Check.end();
    }

    private static void doesSoManyTicks() {
        PhaserYard yard = Script.yard("ADD 1, GOTO 0");
        yard.begin(0, 0, 1, 0);
        Check.same("run(0)", 0, yard.run(0));
        Check.same("ticks of run(0)", 0, yard.count(2));
        Check.same("run(1)", 0, yard.run(1));
        Check.same("steps while the task is taken", 0, yard.count(3));
        Check.same("run(200)", 0, yard.run(200));
        Check.same("ticks", 201, yard.count(2));
        Check.same("steps", 200, yard.count(3));
        Check.same("sum of the endless body", 100, yard.task(0, 1));
    }

    private static void endsWhenItIsOver() {
        PhaserYard yard = Script.yard("ADD 1, ADD 2");
        yard.begin(0, 0, 2, 0);
        Check.same("run(3), a tick too few", 0, yard.run(3));
        Check.same("run(1) to the end", 1, yard.run(1));
        Check.same("ticks", 4, yard.count(2));
        Check.same("run(200) of one that is over", 1, yard.run(200));
        Check.same("run(0) of one that is over", 1, yard.run(0));
        Check.same("ticks stay", 4, yard.count(2));
        yard.begin(0, 0, 1, 1);
        Check.same("run(200) of a short run", 1, yard.run(200));
        Check.same("ticks of a short run", 4, yard.count(2));
    }

    private static void refusesWrongNumbers() {
        PhaserYard yard = Script.yard("ADD 1");
        for (int n : new int[] {-1, 201, Integer.MIN_VALUE, Integer.MAX_VALUE}) {
            Check.refuses("run(" + n + ") with nothing begun", IllegalArgumentException.class, () -> yard.run(n));
        }
        Check.refuses("run(200) with nothing begun", IllegalStateException.class, () -> yard.run(200));
        yard.begin(0, 0, 1, 0);
        Check.refuses("run(201)", IllegalArgumentException.class, () -> yard.run(201));
        Check.refuses("run(-1)", IllegalArgumentException.class, () -> yard.run(-1));
        Check.same("no ticks by refusals", 0, yard.count(2));
    }

    private static void refusesAStuckRun() {
        PhaserYard yard = Script.yard("ADD 1, GET 2");
        yard.begin(0, 0, 3, 0);
        Check.refuses("run(200) into a wait for ever", UnsupportedOperationException.class, () -> yard.run(200));
        Check.same("ticks till it was stuck", 3, yard.count(2));
        Check.same("steps, the wait too", 2, yard.count(3));
        Check.refuses("run(0) of a stuck run", UnsupportedOperationException.class, () -> yard.run(0));
        Check.refuses("run(201) of a stuck run", IllegalArgumentException.class, () -> yard.run(201));
        Check.same("a stuck run is not over", 0, yard.count(10));
        Check.same("ticks stay", 3, yard.count(2));
        yard.begin(7, 0, 1, 0);
        Check.same("a new run is not stuck", 1, yard.run(2));
    }

    private static void isStuckAtTheEndToo() {
        PhaserYard yard = Script.yard("ADD 1, GET 2");
        yard.begin(0, 0, 1, 0);
        Check.same("run(2)", 0, yard.run(2));
        Check.refuses("run(1), whose tick makes it stuck", UnsupportedOperationException.class, () -> yard.run(1));
        Check.same("the tick was done", 3, yard.count(2));
    }
}
