/** Promise 9: the value of a FUTURE that was PUT. */
public final class Promise09FutureTest {
    public static void main(String[] args) {
        tellsTheValue();
        refusesWhatWasNotPut();
        refusesWrongNumbers();
        Check.end();
    }

    private static void tellsTheValue() {
        PhaserYard yard = Script.yard("PUT 0, ADD 1, PUT 1, ADD 1, PUT 2, ADD 1, PUT 3, ADD 1, PUT 0");
        yard.begin(0, -1, 1, 0);
        yard.run(200);
        for (int f = 0; f < 4; f++) {
            Check.same("future(" + f + ")", f - 1, yard.future(f));
        }
        Check.same("the second put throws", 2, yard.count(7));
    }

    private static void refusesWhatWasNotPut() {
        PhaserYard yard = Script.yard("PUT 2");
        Check.refuses("future(2) with nothing begun", IllegalStateException.class, () -> yard.future(2));
        yard.begin(0, 0, 1, 0);
        yard.run(1);
        Check.refuses("future(2) before the put", IllegalStateException.class, () -> yard.future(2));
        yard.run(1);
        Check.same("future(2), a zero", 0, yard.future(2));
        Check.refuses("future(1), never put", IllegalStateException.class, () -> yard.future(1));
        yard.begin(0, 0, 1, 0);
        Check.refuses("future(2) of the next run", IllegalStateException.class, () -> yard.future(2));
    }

    private static void refusesWrongNumbers() {
        PhaserYard yard = Script.yard("PUT 0");
        yard.begin(0, 0, 1, 0);
        for (int f : new int[] {-1, 4, Integer.MIN_VALUE, Integer.MAX_VALUE}) {
            Check.refuses("future(" + f + ")", IllegalArgumentException.class, () -> yard.future(f));
        }
    }
}
