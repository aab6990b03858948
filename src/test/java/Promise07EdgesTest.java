/** Promise 7: none, one, 39, 40 and 41 numbers SAID. */
public final class Promise07EdgesTest {
    public static void main(String[] args) {
        for (int count : new int[] {0, 1, 2, 39, 40, 41, 60}) {
            keepsTheFirstForty(count);
            refusesTheOthers(count);
        }
        tellsEachInt();
        forgetsWithBegin();
        Check.end();
    }

    /** SAYS count, count - 1, .., 1. */
    private static PhaserYard saying(int count) {
        PhaserYard yard = Script.begun(count, 1, 0, "IF 2, GOTO 15, SAY, ADD -1, IF 2");
        Script.runOn(yard, 400);
        return yard;
    }

    private static void keepsTheFirstForty(int count) {
        PhaserYard yard = saying(count);
        for (int k = 0; k < Math.min(count, 40); k++) {
            Check.same("said(" + k + ") of " + count, count - k, yard.said(k));
        }
        Check.same("numbers said", count, yard.count(5));
    }

    private static void refusesTheOthers(int count) {
        int kept = Math.min(count, 40);
        for (int k : new int[] {kept, kept + 1, -1, 40, 41, Integer.MIN_VALUE, Integer.MAX_VALUE}) {
            Refusal.in("with " + count + " said", () -> saying(count))
                .changesNothing("said(" + k + ")", IndexOutOfBoundsException.class, yard -> yard.said(k));
        }
    }

    private static void tellsEachInt() {
        for (int sum : new int[] {Integer.MIN_VALUE, -1, 0, 1, Integer.MAX_VALUE}) {
            Check.same("said(0)", sum, Script.ran(2, sum, "SAY").said(0));
        }
    }

    private static void forgetsWithBegin() {
        PhaserYard yard = saying(41);
        yard.begin(0, 1, 1, 0);
        Check.refuses("said(0) of the next run", IndexOutOfBoundsException.class, () -> yard.said(0));
        yard.run(200);
        Check.same("said(0) when it has said one", 1, yard.said(0));
        Check.refuses("said(1) when it has said one", IndexOutOfBoundsException.class, () -> yard.said(1));
    }
}
