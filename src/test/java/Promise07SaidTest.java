/** Promise 7: the numbers SAID, of which the first 40 are kept. */
public final class Promise07SaidTest {
    public static void main(String[] args) {
        tellsThemInOrder();
        keepsForty();
        Check.end();
    }

    private static void tellsThemInOrder() {
        PhaserYard yard = Script.yard("SAY, ADD -5, SAY, TIMES 0, SAY");
        yard.begin(0, 3, 1, 0);
        Check.refuses("said(0) before it is said", IndexOutOfBoundsException.class, () -> yard.said(0));
        yard.run(2);
        Check.same("said(0) in the middle", 3, yard.said(0));
        Check.refuses("said(1) in the middle", IndexOutOfBoundsException.class, () -> yard.said(1));
        yard.run(200);
        Script.says("three numbers", yard, 3, -2, 0);
        for (int k : new int[] {-1, 3, 39, 40, Integer.MIN_VALUE, Integer.MAX_VALUE}) {
            Check.refuses("said(" + k + ")", IndexOutOfBoundsException.class, () -> yard.said(k));
        }
    }

    private static void keepsForty() {
        PhaserYard yard = Script.yard("SAY, ADD 1, GOTO 0");
        yard.begin(0, 100, 1, 0);
        yard.run(200);
        Check.same("numbers said, also those not kept", 67, yard.count(5));
        Check.same("said(0)", 100, yard.said(0));
        Check.same("said(39)", 139, yard.said(39));
        Check.refuses("said(40)", IndexOutOfBoundsException.class, () -> yard.said(40));
    }
}
