/** Promise 8: what is told of a TASK. */
public final class Promise08TaskTest {
    public static void main(String[] args) {
        tellsWhereItIs();
        tellsWhatItHas();
        tellsItsPlace();
        refusesWrongNumbers();
        Check.end();
    }

    private static void tellsWhereItIs() {
        PhaserYard yard = Script.yard("ASYNC 1, GET 0", "PUT 0");
        yard.begin(0, 0, 1, 0);
        Script.isState("at first", yard, 0, Script.IN_DEQUE);
        yard.run(1);
        Script.isState("taken", yard, 0, Script.AT_HAND);
        yard.run(1);
        Script.isState("begun by async", yard, 1, Script.IN_DEQUE);
        yard.run(1);
        Script.isState("in its get", yard, 0, Script.WAITS);
        yard.run(2);
        Script.isState("after the put", yard, 0, Script.IN_DEQUE);
        Script.isState("the one that put", yard, 1, Script.AT_HAND);
        yard.run(1);
        Script.isState("the one that put, at its end", yard, 1, Script.DONE);
    }

    private static void tellsWhatItHas() {
        PhaserYard yard = Script.yard("JOIN 1, JOIN 6, ASYNC 5, OPEN 0, OPEN 0, ADD 4, LEAVE 0");
        yard.begin(0, 5, 1, 0);
        yard.run(8);
        Check.same("sum", 9, yard.task(0, 1));
        Check.same("body", 0, yard.task(0, 3));
        Check.same("own scopes", 2, yard.task(0, 4));
        Check.same("mode on phaser 0 after leave", 0, yard.task(0, 5));
        Check.same("mode on phaser 1", 2, yard.task(0, 6));
        Check.same("sum of the new one", 5, yard.task(1, 1));
        Check.same("body of the new one", 5, yard.task(1, 3));
        Check.same("mode of the new one", 0, yard.task(1, 6));
        yard.run(200);
        Check.same("own scopes at the end", 0, yard.task(0, 4));
        Check.same("mode at the end", 0, yard.task(0, 6));
        Check.same("sum at the end", 9, yard.task(0, 1));
    }

    private static void tellsItsPlace() {
        PhaserYard yard = Script.yard("OPEN 20, ASYNC 1, CLOSE, GOTO 9", "GET 0, THROW 10", "PUT 0");
        yard.begin(0, 0, 1, 0);
        yard.run(3);
        Check.same("place before the close", 2, yard.task(0, 2));
        yard.run(1);
        Check.same("place while its scope is to end", 2, yard.task(0, 2));
        yard.run(1);
        Check.same("place while it waits", 2, yard.task(0, 2));
        Check.refuses("the child waits for ever", UnsupportedOperationException.class, () -> yard.run(200));
        Check.same("place of a get that waits", 0, yard.task(1, 2));
        placeOfGotoAndHandler();
    }

    private static void placeOfGotoAndHandler() {
        PhaserYard yard = Script.yard("OPEN 36, GOTO 4, SAY, SAY, THROW 50");
        yard.begin(0, 0, 1, 0);
        yard.run(3);
        Check.same("place by goto", 4, yard.task(0, 2));
        yard.run(1);
        Check.same("place of the throw", 4, yard.task(0, 2));
        yard.run(1);
        Check.same("place of the handler", 9, yard.task(0, 2));
        Check.same("sum at the handler", 50, yard.task(0, 1));
        yard.run(1);
        Check.same("place where the body had its end", 9, yard.task(0, 2));
        Script.isState("end of the body", yard, 0, Script.DONE);
    }

    private static void refusesWrongNumbers() {
        PhaserYard yard = Script.yard("ASYNC 0, GOTO 0");
        Check.refuses("task(0, 7) with nothing begun", IllegalArgumentException.class, () -> yard.task(0, 7));
        Check.refuses("task(0, 6) with nothing begun", IndexOutOfBoundsException.class, () -> yard.task(0, 6));
        yard.begin(0, 0, 1, 0);
        for (int what : new int[] {-1, 7, Integer.MIN_VALUE, Integer.MAX_VALUE}) {
            Check.refuses("task(0, " + what + ")", IllegalArgumentException.class, () -> yard.task(0, what));
            Check.refuses("task(9, " + what + ")", IllegalArgumentException.class, () -> yard.task(9, what));
        }
        for (int t : new int[] {-1, 1, 47, 48, Integer.MIN_VALUE, Integer.MAX_VALUE}) {
            Check.refuses("task(" + t + ", 0)", IndexOutOfBoundsException.class, () -> yard.task(t, 0));
        }
        yard.run(200);
        Check.same("body of the last task", 0, yard.task(47, 3));
        Check.refuses("task(48, 0)", IndexOutOfBoundsException.class, () -> yard.task(48, 0));
    }
}
