/** Promise 6: the last TICK before the end, results that wrap, and which of two refusals comes first. */
public final class Promise06EdgesTest {
    private static final int MIN = Integer.MIN_VALUE;
    private static final int MAX = Integer.MAX_VALUE;

    public static void main(String[] args) {
        comesWithTheLastTick();
        wraps();
        takesTheSumAtTheEnd();
        aHandledCodeIsNone();
        refusesBeforeTheEnd();
        refusesWithACode();
        Check.end();
    }

    private static void comesWithTheLastTick() {
        for (int ticks = 0; ticks <= 3; ticks++) {
            PhaserYard yard = Script.ran(ticks, 2, "ADD 1, GIVE");
            Check.refuses("result() after " + ticks + " ticks", IllegalStateException.class, () -> yard.result());
        }
        PhaserYard over = Script.ran(4, 2, "ADD 1, GIVE");
        Check.same("result() after the last tick", 6, over.result());
        Check.same("result() again", 6, over.result());
    }

    private static void wraps() {
        Check.same("the greatest and a total of 1", MIN, Script.resultOf(MAX, "ASYNC 1", "TIMES 0, ADD 1, GIVE"));
        Check.same("the least and a total of -1", MAX, Script.resultOf(MIN, "ASYNC 1", "TIMES 0, ADD -1, GIVE"));
        Check.same("twice the least", 0, Script.resultOf(MIN, "GIVE"));
        Check.same("twice the greatest", -2, Script.resultOf(MAX, "GIVE"));
        Check.same("the least and the greatest", -1, Script.resultOf(MIN, "GIVE, ADD -1"));
        Check.same("the greatest and nothing", MAX, Script.resultOf(MAX, ""));
    }

    private static void takesTheSumAtTheEnd() {
        Check.same("not the sum at first", 5, Script.resultOf(1, "ASYNC 1, ADD 4", "ADD 50"));
        Check.same("a total of an own scope is in the sum", 12, Script.resultOf(4, "OPEN 0, GIVE, ADD 4"));
    }

    private static void aHandledCodeIsNone() {
        Check.same("a code with a handler", 10, Script.resultOf(1, "OPEN 8, THROW 10"));
    }

    private static void refusesBeforeTheEnd() {
        Refusal.in("stuck with a code", () -> Script.ran(200, 1, "ASYNC 1, GET 0", "THROW 10"))
            .changesNothing("result()", IllegalStateException.class, yard -> yard.result());
        Check.same("the code in the middle", 10, Script.ran(6, 1, "ASYNC 2, ASYNC 1", "THROW 10", "GOTO 0").count(7));
        Refusal.in("in the middle with a code", () -> Script.ran(6, 1, "ASYNC 2, ASYNC 1", "THROW 10", "GOTO 0"))
            .changesNothing("result()", IllegalStateException.class, yard -> yard.result());
        Refusal.in("with nothing begun", () -> Script.yard("ADD 1"))
            .changesNothing("result()", IllegalStateException.class, yard -> yard.result());
    }

    private static void refusesWithACode() {
        Refusal.in("over with one code", () -> Script.ran(200, 1, "ASYNC 1", "THROW 10"))
            .changesNothing("result()", ArithmeticException.class, yard -> yard.result());
        Refusal.in("over with two codes", () -> Script.ran(200, 1, "ASYNC 1, THROW 99", "THROW 10"))
            .changesNothing("result()", ArithmeticException.class, yard -> yard.result());
    }
}
