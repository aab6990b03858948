/** Terms, FUTURES: each of the four, PUT once and again, and none, one and all that WAIT for one. */
public final class TermsFuturesEdgesTest {
    private static final int MIN = Integer.MIN_VALUE;
    private static final int MAX = Integer.MAX_VALUE;

    public static void main(String[] args) {
        for (int f = 0; f <= 3; f++) {
            secondPutThrows(f);
            zeroIsPutToo(f);
            getWaitsForThisOneAlone(f);
            whenWaitsForThisOneAlone(f);
        }
        firstAndLastWhen();
        getWraps();
        getOfWhatIsPutDoesNotWait();
        putWakesAll();
        whatIsPutForNobody();
        getOfItsOwnIsStuck();
        Check.end();
    }

    private static void secondPutThrows(int f) {
        PhaserYard yard = Script.ran(200, 7, "PUT " + f + ", ADD 1, PUT " + f + ", SAY");
        Check.same("the first value of future " + f, 7, yard.future(f));
        Check.same("the code", 2, yard.count(7));
        Check.same("one code", 1, yard.count(6));
        Script.says("nothing behind it", yard);
        PhaserYard same = Script.ran(200, 7, "PUT " + f + ", PUT " + f);
        Check.same("the same value again", 2, same.count(7));
        PhaserYard others = Script.ran(200, 7, "ASYNC 1, PUT " + f, "ADD 1, PUT " + f);
        Check.same("by another task", 2, others.count(7));
        Check.same("its value", 7, others.future(f));
    }

    private static void zeroIsPutToo(int f) {
        Check.same("a zero put again", 2, Script.codeOf("PUT " + f + ", PUT " + f));
        PhaserYard yard = Script.ran(200, 0, "PUT " + f + ", ADD 9, GET " + f + ", WHEN " + (4 + f), "SAY");
        Check.same("a get of zero", 9, yard.result());
        Script.says("a when of zero", yard, 9);
    }

    private static void getWaitsForThisOneAlone(int f) {
        for (int put = 0; put <= 3; put++) {
            PhaserYard yard = Script.ran(200, 1, "ASYNC 1, GET " + f + ", SAY", "ADD 4, PUT " + put);
            Check.same("get " + f + " with put " + put, put == f ? Script.DONE : Script.WAITS, yard.task(0, 0));
            Check.same("its sum", put == f ? 6 : 1, yard.task(0, 1));
        }
    }

    private static void whenWaitsForThisOneAlone(int f) {
        for (int put = 0; put <= 3; put++) {
            PhaserYard yard = Script.ran(200, 1, "WHEN " + (4 + f) + ", PUT " + put, "SAY");
            Check.same("when " + f + " with put " + put, put == f ? Script.DONE : Script.WAITS, yard.task(1, 0));
            Check.same("numbers said", put == f ? 1 : 0, yard.count(5));
        }
    }

    private static void firstAndLastWhen() {
        for (int a = 0; a <= 31; a++) {
            PhaserYard yard = Script.ran(3, 5, "WHEN " + a + ", PUT " + a % 4 + ", GOTO 2");
            Check.same("body by when " + a, a / 4, yard.task(1, 3));
            Script.isState("when " + a, yard, 1, Script.IN_DEQUE);
        }
    }

    private static void getWraps() {
        Check.same("twice the greatest", -2, Script.resultOf(MAX, "PUT 0, GET 0"));
        Check.same("twice the least", 0, Script.resultOf(MIN, "PUT 0, GET 0"));
        Check.same("the greatest and 1", MIN, Script.resultOf(1, "PUT 3, TIMES 0, ADD " + MAX + ", GET 3"));
        Check.same("the greatest and 1, after a wait", MIN,
            Script.resultOf(MAX, "ASYNC 1, GET 3", "TIMES 0, ADD 1, PUT 3"));
    }

    private static void getOfWhatIsPutDoesNotWait() {
        PhaserYard yard = Script.ran(3, 5, "PUT 1, GET 1, GET 1");
        Script.isState("after the first get", yard, 0, Script.AT_HAND);
        Check.same("its sum", 10, yard.task(0, 1));
        yard.run(1);
        Check.same("a future can be got again", 15, yard.task(0, 1));
    }

    /** TASK 47 makes TASK 0 and the 23 odd ones ready, behind the 23 even ones, who never waited. */
    private static void putWakesAll() {
        PhaserYard yard = Script.begun(23, 1, 0, "WHEN 5, ASYNC 2, ADD -1, IF 0, ASYNC 3, GET 1", "SAY", "GET 1",
            "TIMES 0, ADD 9, PUT 1, GOTO 3");
        yard.run(1 + 23 * 4 + 2);
        Script.isState("in its get", yard, 0, Script.WAITS);
        yard.run(3);
        Check.same("the last one is at hand", 47, yard.count(20));
        Check.same("those that never waited", 23, yard.count(30));
        for (int t = 1; t < 47; t += 2) {
            Script.isState("begun by when", yard, t, Script.WAITS);
        }
        yard.run(1);
        Check.same("after the put", 47, yard.count(30));
        for (int i = 0; i < 23; i++) {
            Check.same("one that never waited", 2 * i + 2, yard.count(40 + i));
            Check.same("one that waited", 2 * i + 1, yard.count(40 + 24 + i));
        }
        Check.same("the first that waited", 0, yard.count(40 + 23));
    }

    private static void whatIsPutForNobody() {
        PhaserYard yard = Script.ran(200, 3, "PUT 0, PUT 1, PUT 2, PUT 3");
        Check.same("over", 1, yard.count(10));
        Check.same("steps", 5, yard.count(3));
    }

    private static void getOfItsOwnIsStuck() {
        PhaserYard yard = Script.begun(3, 3, 1, "GET 0, PUT 0");
        Check.refuses("a get before its own put", UnsupportedOperationException.class, () -> yard.run(200));
        Check.same("it stays at the get", 0, yard.task(0, 2));
    }
}
