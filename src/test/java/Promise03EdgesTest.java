/** Promise 3: the last number taken and the first refused of each op, the sixteenth INSTRUCTION and the next. */
public final class Promise03EdgesTest {
    private static final int MIN = Integer.MIN_VALUE;
    private static final int MAX = Integer.MAX_VALUE;
    /** op, the least and the greatest a, of those whose a is bounded. */
    private static final int[][] BOUNDED = {{2, 0, 7}, {3, 0, 7}, {4, 0, 63}, {7, 0, 3}, {8, 0, 3}, {9, 0, 31},
        {10, 0, 7}, {11, 0, 1}, {13, 10, 99}, {15, 0, 15}, {16, 0, 15}};

    public static void main(String[] args) {
        takesEachNumberWithin();
        refusesTheNextOnBothSides();
        takesAnyIntWhereThereIsNone();
        refusesOtherOpsAndBodies();
        takesSixteen();
        refusesTheSeventeenth();
        wrongNumbersComeBeforeTheFullBody();
        isMetAtTheEndOfTheBody();
        Check.end();
    }

    private static void takesEachNumberWithin() {
        for (int[] bound : BOUNDED) {
            for (int a = bound[1]; a <= bound[2]; a++) {
                Check.same("add(0, " + bound[0] + ", " + a + ")", 1, new PhaserYard().add(0, bound[0], a));
            }
        }
    }

    private static void refusesTheNextOnBothSides() {
        for (int[] bound : BOUNDED) {
            for (int a : new int[] {bound[1] - 1, bound[2] + 1, MIN, MAX}) {
                refuses(0, bound[0], a);
            }
        }
    }

    private static void takesAnyIntWhereThereIsNone() {
        for (int a : new int[] {MIN, -1, 0, 1, 64, MAX}) {
            PhaserYard yard = new PhaserYard();
            Check.same("add of open", 1, yard.add(0, 4, 0));
            Check.same("add of join", 2, yard.add(0, 10, 1));
            Check.same("add of next, " + a, 3, yard.add(0, 12, a));
            Check.same("add of give, " + a, 4, yard.add(0, 6, a));
            Check.same("add of close, " + a, 5, yard.add(0, 5, a));
            Check.same("add of say, " + a, 6, yard.add(0, 14, a));
            yard.begin(0, 4, 1, 0);
            yard.run(200);
            Check.same("they do the same with " + a, 8, yard.result());
            Check.same("next with " + a, 1, yard.count(8));
            Check.same("say with " + a, 8, yard.said(0));
        }
        for (int a : new int[] {MIN, -1, 0, 1, MAX}) {
            Check.same("add of " + a, 3 + a, Script.resultOf(3, "ADD " + a));
            Check.same("times " + a, 3 * a, Script.resultOf(3, "TIMES " + a));
        }
    }

    private static void refusesOtherOpsAndBodies() {
        for (int b : new int[] {-1, 8, MIN, MAX}) {
            refuses(b, 0, 0);
        }
        for (int op : new int[] {-1, 17, MIN, MAX}) {
            refuses(0, op, 0);
        }
        for (int b : new int[] {0, 7}) {
            Check.same("the first op in body " + b, 1, new PhaserYard().add(b, 0, 0));
            Check.same("the last op in body " + b, 1, new PhaserYard().add(b, 16, 0));
        }
    }

    private static void takesSixteen() {
        for (int b = 0; b < 8; b++) {
            PhaserYard yard = new PhaserYard();
            for (int size = 1; size <= 16; size++) {
                Check.same("add number " + size + " to body " + b, size, yard.add(b, 0, 1));
            }
            yard.begin(b, 0, 1, 0);
            yard.run(200);
            Check.same("all sixteen of body " + b + " are done", 16, yard.result());
        }
    }

    private static void refusesTheSeventeenth() {
        for (Refusal where : Refusal.everywhere()) {
            where.changesNothing("add(7, 0, 1)", IllegalStateException.class, yard -> yard.add(7, 0, 1));
        }
    }

    private static void wrongNumbersComeBeforeTheFullBody() {
        refuses(7, 17, 0);
        refuses(7, -1, 0);
        refuses(7, 13, 9);
        refuses(7, 13, 100);
    }

    private static void isMetAtTheEndOfTheBody() {
        PhaserYard inTime = Script.ran(2, 0, "ADD 1");
        Check.same("add before the end of the body", 2, inTime.add(0, 0, 10));
        inTime.run(200);
        Check.same("it is done", 11, inTime.result());
        PhaserYard tooLate = Script.ran(3, 0, "ADD 1");
        Check.same("add after the end of the body", 2, tooLate.add(0, 0, 10));
        Check.same("the run stays over", 1, tooLate.run(200));
        Check.same("it is not done", 1, tooLate.result());
    }

    private static void refuses(int b, int op, int a) {
        for (Refusal where : Refusal.everywhere()) {
            where.changesNothing("add(" + b + ", " + op + ", " + a + ")", IllegalArgumentException.class,
                yard -> yard.add(b, op, a));
        }
    }
}
