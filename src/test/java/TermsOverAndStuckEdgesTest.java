/** Terms, OVER and STUCK: the last TASK of the ROOT SCOPE, and each way in which nothing can go on. */
public final class TermsOverAndStuckEdgesTest {
    public static void main(String[] args) {
        overWithTheLastTask();
        overWithACode();
        overAtTheEndOfTheTick();
        notStuckWithOneAtHand();
        notStuckWithOneInADeque();
        stuckByEachWait();
        stuckWithSomeDone();
        stuckStaysStuck();
        notOverWhenStuck();
        Check.end();
    }

    private static void overWithTheLastTask() {
        PhaserYard yard = Script.begun(0, 1, 0, "ASYNC 1, ASYNC 1", "ADD 1");
        yard.run(9);
        Check.same("one is left", 1, yard.count(1));
        Check.same("not over with one left", 0, yard.count(10));
        Check.same("over with none left", 1, yard.run(1));
        Check.same("none is left", 0, yard.count(1));
        Check.same("count(10)", 1, yard.count(10));
    }

    private static void overWithACode() {
        PhaserYard yard = Script.begun(0, 1, 0, "THROW 10");
        Check.same("run(1)", 0, yard.run(1));
        Check.same("over by a code", 1, yard.run(1));
        Check.same("count(10)", 1, yard.count(10));
    }

    private static void overAtTheEndOfTheTick() {
        PhaserYard yard = Script.begun(0, 2, 0, "ASYNC 1, ADD 1, ADD 1", "ADD 1, ADD 1");
        yard.run(4);
        Check.same("both are at their end", 0, yard.count(10));
        Check.same("both end in one tick", 1, yard.run(1));
        Check.same("steps of both", 7, yard.count(3));
        Check.same("ticks", 5, yard.count(2));
    }

    private static void notStuckWithOneAtHand() {
        PhaserYard yard = Script.begun(0, 1, 0, "GOTO 0");
        yard.run(1);
        Check.same("the deque is empty", 0, yard.count(30));
        Check.same("run(0) with one at hand", 0, yard.run(0));
    }

    private static void notStuckWithOneInADeque() {
        PhaserYard yard = Script.begun(0, 1, 0, "ASYNC 1, GET 0", "PUT 0");
        yard.run(3);
        Check.same("nothing at hand", -1, yard.count(20));
        Check.same("run(0) with one in the deque", 0, yard.run(0));
        PhaserYard other = Script.begun(0, 2, 0, "ASYNC 1, GET 0", "ADD 1, ADD 1, PUT 0");
        other.run(3);
        Check.same("nothing at hand of worker 0", -1, other.count(20));
        Check.same("run(0) with one at hand of worker 1", 0, other.run(0));
        Check.same("it goes on", 1, other.run(200));
    }

    private static void stuckByEachWait() {
        isStuck("get", 3, "ADD 1, GET 0");
        isStuck("next", 3, "JOIN 2, NEXT");
        isStuck("next, held by one that gets", 6, "JOIN 3, HANDS 1, NEXT", "GET 0");
        isStuck("the end of a scope with one by when", 5, "OPEN 0, WHEN 4, CLOSE");
        isStuck("the end of a scope by the end of the body", 5, "OPEN 0, WHEN 4");
        isStuck("the end of a scope by a code", 5, "OPEN 0, WHEN 4, THROW 10");
        isStuck("the root scope with one by when", 3, "WHEN 4");
        isStuck("a parent and its child", 7, "OPEN 0, ASYNC 1, CLOSE, PUT 0", "GET 0");
    }

    private static void isStuck(String by, int ticks, String... bodies) {
        PhaserYard yard = Script.begun(0, 1, 0, bodies);
        Check.same(by + ": not stuck before the last tick", 0, yard.run(ticks - 1));
        Check.refuses(by + ": stuck with the last tick", UnsupportedOperationException.class, () -> yard.run(1));
        Check.same(by + ": ticks", ticks, yard.count(2));
        Check.same(by + ": not over", 0, yard.count(10));
    }

    private static void stuckWithSomeDone() {
        PhaserYard yard = Script.begun(0, 3, 0, "ASYNC 1, ASYNC 1, GET 0", "SAY");
        Check.refuses("task 0 alone can not go on", UnsupportedOperationException.class, () -> yard.run(200));
        Check.same("the others are done", 1, yard.count(1));
        Check.same("they went on", 2, yard.count(5));
    }

    private static void stuckStaysStuck() {
        PhaserYard yard = Script.ran(200, 0, "GET 0", "PUT 0");
        yard.body(0);
        Script.write(yard, 0, "PUT 0, PUT 0");
        Check.refuses("another body does not help", UnsupportedOperationException.class, () -> yard.run(200));
        Check.same("no tick was done", 2, yard.count(2));
        yard.begin(1, 0, 1, 0);
        Check.same("another run does", 1, yard.run(200));
    }

    private static void notOverWhenStuck() {
        PhaserYard yard = Script.ran(200, 0, "GET 0");
        Check.same("count(10)", 0, yard.count(10));
        Check.refuses("result()", IllegalStateException.class, () -> yard.result());
    }
}
