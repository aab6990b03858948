/** Promise 1: what a new object answers at the edge of each question, and that asking leaves it new. */
public final class Promise01EdgesTest {
    public static void main(String[] args) {
        eachBodyIsEmpty();
        anEmptyBodyCanBegin();
        noQuestionChangesIt();
        Check.end();
    }

    private static void eachBodyIsEmpty() {
        for (int b = 0; b < 8; b++) {
            PhaserYard yard = new PhaserYard();
            Check.same("the first add to body " + b, 1, yard.add(b, 14, 0));
            Check.same("body(" + b + ") with one", 1, yard.body(b));
        }
    }

    private static void anEmptyBodyCanBegin() {
        for (int b = 0; b < 8; b++) {
            PhaserYard yard = new PhaserYard();
            yard.begin(b, 6, 1, 0);
            Check.same("body " + b + " of nothing: run(1)", 0, yard.run(1));
            Check.same("body " + b + " of nothing: run(1) again", 1, yard.run(1));
            Check.same("body " + b + " of nothing: result", 6, yard.result());
        }
    }

    private static void noQuestionChangesIt() {
        Refusal anew = Refusal.in("of a new object", () -> new PhaserYard());
        for (int n : new int[] {0, 1, 200}) {
            anew.changesNothing("run(" + n + ")", IllegalStateException.class, yard -> yard.run(n));
        }
        anew.changesNothing("result()", IllegalStateException.class, yard -> yard.result());
        for (int k : new int[] {-1, 0, 39, 40}) {
            anew.changesNothing("said(" + k + ")", IndexOutOfBoundsException.class, yard -> yard.said(k));
        }
        for (int what = 0; what <= 6; what++) {
            int asked = what;
            anew.changesNothing("task(0, " + what + ")", IndexOutOfBoundsException.class, yard -> yard.task(0, asked));
        }
        for (int f = 0; f <= 3; f++) {
            int asked = f;
            anew.changesNothing("future(" + f + ")", IllegalStateException.class, yard -> yard.future(asked));
        }
    }
}
