/** Promise 9: the first and the last FUTURE, and the next ones, which are refused. */
public final class Promise09EdgesTest {
    private static final int MIN = Integer.MIN_VALUE;
    private static final int MAX = Integer.MAX_VALUE;

    public static void main(String[] args) {
        tellsEachOfFour();
        tellsEachInt();
        refusesWhatIsNotPut();
        refusesOtherNumbersFirst();
        Check.end();
    }

    private static void tellsEachOfFour() {
        for (int put = 0; put <= 3; put++) {
            PhaserYard yard = Script.ran(2, 8, "PUT " + put);
            for (int f = 0; f <= 3; f++) {
                int asked = f;
                if (f == put) {
                    Check.same("future(" + f + ")", 8, yard.future(f));
                } else {
                    Check.refuses("future(" + f + ") beside " + put, IllegalStateException.class,
                        () -> yard.future(asked));
                }
            }
        }
    }

    private static void tellsEachInt() {
        for (int sum : new int[] {MIN, -1, 0, 1, MAX}) {
            Check.same("future(3)", sum, Script.ran(2, sum, "PUT 3").future(3));
            Check.same("future(3) after the sum changed", sum, Script.ran(200, sum, "PUT 3, ADD 7").future(3));
        }
    }

    private static void refusesWhatIsNotPut() {
        for (int f = 0; f <= 3; f++) {
            int asked = f;
            Refusal.in("with nothing begun", () -> new PhaserYard())
                .changesNothing("future(" + f + ")", IllegalStateException.class, yard -> yard.future(asked));
            Refusal.in("before the put", () -> Script.ran(1, 1, "PUT " + asked))
                .changesNothing("future(" + f + ")", IllegalStateException.class, yard -> yard.future(asked));
            Refusal.in("at the end", () -> Script.ran(200, 1, "PUT " + (asked + 1) % 4))
                .changesNothing("future(" + f + ")", IllegalStateException.class, yard -> yard.future(asked));
        }
    }

    private static void refusesOtherNumbersFirst() {
        for (Refusal where : Refusal.everywhere()) {
            for (int f : new int[] {-1, 4, MIN, MAX}) {
                where.changesNothing("future(" + f + ")", IllegalArgumentException.class, yard -> yard.future(f));
            }
        }
    }
}
