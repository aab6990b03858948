/** Promise 5: no TICK, the 200 that are the most, and a RUN that is OVER or STUCK with the very last one. */
public final class Promise05EdgesTest {
    private static final int[] WRONG = {-1, 201, Integer.MIN_VALUE, Integer.MAX_VALUE};

    public static void main(String[] args) {
        doesEachNumberOfTicks();
        isOverWithTheLastTick();
        isOverWithTheTwoHundredth();
        isStuckWithTheLastTick();
        isStuckWithTheTwoHundredth();
        oneThatIsOverIsNeverStuck();
        refusesOtherNumbersFirst();
        refusesWithNothingBegun();
        refusesAStuckOne();
        Check.end();
    }

    private static void doesEachNumberOfTicks() {
        for (int n = 0; n <= 200; n++) {
            PhaserYard yard = Script.begun(0, 1, 0, "GOTO 0");
            Check.same("run(" + n + ") without end", 0, yard.run(n));
            Check.same("its ticks", n, yard.count(2));
        }
    }

    private static void isOverWithTheLastTick() {
        PhaserYard yard = Script.begun(0, 1, 0, "ADD 1");
        Check.same("run(2), one too few", 0, yard.run(2));
        Check.same("run(0) is no tick", 0, yard.run(0));
        Check.same("it is not over", 0, yard.count(10));
        Check.same("run(1), the last", 1, yard.run(1));
        for (int n : new int[] {0, 1, 200}) {
            Check.same("run(" + n + ") of one that is over", 1, yard.run(n));
        }
        Check.same("its ticks", 3, yard.count(2));
        Check.same("its steps", 2, yard.count(3));
    }

    private static void isOverWithTheTwoHundredth() {
        PhaserYard yard = Script.begun(99, 1, 0, "ADD -1, IF 0");
        Check.same("run(200), all needed", 1, yard.run(200));
        Check.same("its ticks", 200, yard.count(2));
        PhaserYard longer = Script.begun(99, 1, 0, "ADD -1, IF 0, SAY");
        Check.same("run(200), one too few", 0, longer.run(200));
        Check.same("run(1) behind it", 1, longer.run(1));
    }

    private static void isStuckWithTheLastTick() {
        PhaserYard yard = Script.begun(0, 1, 0, "ADD 1, GET 0");
        Check.same("run(2), one too few", 0, yard.run(2));
        Check.same("run(0) is no tick", 0, yard.run(0));
        Check.refuses("run(1), the last", UnsupportedOperationException.class, () -> yard.run(1));
        Check.same("its tick was done", 3, yard.count(2));
        Check.same("its step was done", 2, yard.count(3));
    }

    private static void isStuckWithTheTwoHundredth() {
        PhaserYard yard = Script.begun(99, 1, 0, "ADD -1, IF 0, GET 0");
        Check.refuses("run(200), stuck at its end", UnsupportedOperationException.class, () -> yard.run(200));
        Check.same("its ticks", 200, yard.count(2));
        PhaserYard longer = Script.begun(99, 1, 0, "ADD -1, IF 0, SAY, GET 0");
        Check.same("run(200), one too few", 0, longer.run(200));
        Check.refuses("run(1) behind it", UnsupportedOperationException.class, () -> longer.run(1));
    }

    private static void oneThatIsOverIsNeverStuck() {
        PhaserYard yard = Script.begun(0, 3, 0, "");
        Check.same("run(2)", 1, yard.run(2));
        Check.same("no task at hand", -1, yard.count(20));
        Check.same("an empty deque", 0, yard.count(30));
        Check.same("run(0)", 1, yard.run(0));
    }

    private static void refusesOtherNumbersFirst() {
        for (Refusal where : Refusal.everywhere()) {
            for (int n : WRONG) {
                where.changesNothing("run(" + n + ")", IllegalArgumentException.class, yard -> yard.run(n));
            }
        }
    }

    private static void refusesWithNothingBegun() {
        Refusal unbegun = Refusal.in("with bodies alone", () -> Script.yard("ADD 1"));
        for (int n : new int[] {0, 1, 200}) {
            unbegun.changesNothing("run(" + n + ")", IllegalStateException.class, yard -> yard.run(n));
        }
        PhaserYard yard = Script.yard("ADD 1");
        Check.refuses("begin of no body", IllegalArgumentException.class, () -> yard.begin(8, 0, 1, 0));
        Check.refuses("run(1) after a refused begin", IllegalStateException.class, () -> yard.run(1));
    }

    private static void refusesAStuckOne() {
        Refusal stuck = Refusal.in("stuck", () -> Script.ran(200, 1, "SAY, GET 0", "PUT 0"));
        for (int n : new int[] {0, 1, 200}) {
            stuck.changesNothing("run(" + n + ")", UnsupportedOperationException.class, yard -> yard.run(n));
        }
    }
}
