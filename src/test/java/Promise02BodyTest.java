/** Promise 2: body empties a BODY and tells how many INSTRUCTIONS it had. */
public final class Promise02BodyTest {
    public static void main(String[] args) {
        emptiesOneBody();
        refusesWrongNumbers();
        aRunMeetsTheEmptyBody();
        Check.end();
    }

    private static void emptiesOneBody() {
        PhaserYard yard = Script.yard("ADD 1, SAY", "ADD 2", "", "", "", "", "", "SAY, SAY, SAY");
        Check.same("body(0)", 2, yard.body(0));
        Check.same("body(0) again", 0, yard.body(0));
        Check.same("body(1) beside it", 1, yard.body(1));
        Check.same("body(7)", 3, yard.body(7));
        Script.write(yard, 0, "ADD 7");
        yard.begin(0, 0, 1, 0);
        yard.run(200);
        Check.same("result of the body written anew", 7, yard.result());
    }

    private static void refusesWrongNumbers() {
        PhaserYard yard = Script.yard("ADD 1");
        for (int b : new int[] {-1, 8, 100, Integer.MIN_VALUE, Integer.MAX_VALUE}) {
            Check.refuses("body(" + b + ")", IllegalArgumentException.class, () -> yard.body(b));
        }
        Check.same("body(0) after refusals", 1, yard.body(0));
    }

    private static void aRunMeetsTheEmptyBody() {
        PhaserYard yard = Script.yard("ADD 1, ADD 2, ADD 4");
        yard.begin(0, 0, 1, 0);
        yard.run(2);
        Check.same("body(0) in a run", 3, yard.body(0));
        Check.same("run(1): the body has its end", 1, yard.run(1));
        Check.same("result of the cut body", 1, yard.result());
        Check.same("place at the end", 1, yard.task(0, 2));
    }
}
