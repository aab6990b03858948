/** Promise 3: add puts an INSTRUCTION to the end of a BODY, within the bounds of its op. */
public final class Promise03AddTest {
    private static final int MIN = Integer.MIN_VALUE;
    private static final int MAX = Integer.MAX_VALUE;
    private static final int[][] BOUNDS = {
        {MIN, MAX}, {MIN, MAX}, {0, 7}, {0, 7}, {0, 63}, {MIN, MAX}, {MIN, MAX}, {0, 3}, {0, 3}, {0, 31},
        {0, 7}, {0, 1}, {MIN, MAX}, {10, 99}, {MIN, MAX}, {0, 15}, {0, 15}};

    public static void main(String[] args) {
        keepsTheBoundsOfEachOp();
        refusesWrongBodiesAndOps();
        refusesASeventeenth();
        aRunGoesOnWithIt();
        Check.end();
    }

    private static void keepsTheBoundsOfEachOp() {
        for (int op = 0; op < BOUNDS.length; op++) {
            int least = BOUNDS[op][0];
            int greatest = BOUNDS[op][1];
            PhaserYard yard = new PhaserYard();
            Check.same("the first add of op " + op, 1, yard.add(0, op, least));
            Check.same("the second add of op " + op, 2, yard.add(0, op, greatest));
            if (least != MIN) {
                refuses(yard, 0, op, least - 1);
                refuses(yard, 0, op, greatest + 1);
                refuses(yard, 0, op, MIN);
                refuses(yard, 0, op, MAX);
            }
            Check.same("size after the refusals of op " + op, 2, yard.body(0));
        }
    }

    private static void refusesWrongBodiesAndOps() {
        PhaserYard yard = new PhaserYard();
        for (int b : new int[] {-1, 8, MIN, MAX}) {
            refuses(yard, b, 0, 0);
        }
        for (int op : new int[] {-1, 17, MIN, MAX}) {
            refuses(yard, 0, op, 0);
        }
        Check.same("add to the last body", 1, yard.add(7, 16, 0));
    }

    private static void refusesASeventeenth() {
        PhaserYard yard = new PhaserYard();
        for (int i = 1; i <= 16; i++) {
            Check.same("add number " + i, i, yard.add(2, 14, 0));
        }
        Check.refuses("add to a full body", IllegalStateException.class, () -> yard.add(2, 14, 0));
        refuses(yard, 2, 17, 0);
        refuses(yard, 2, 13, 100);
        Check.same("another body has room", 1, yard.add(3, 14, 0));
        Check.same("the full body", 16, yard.body(2));
        Check.same("the emptied body has room", 1, yard.add(2, 14, 0));
    }

    private static void aRunGoesOnWithIt() {
        PhaserYard yard = Script.yard("ADD 1");
        yard.begin(0, 0, 1, 0);
        yard.run(2);
        Check.same("add in a run", 2, yard.add(0, 0, 10));
        Check.same("run(1) is not over yet", 0, yard.run(1));
        Check.same("sum by the new instruction", 11, yard.task(0, 1));
        Check.same("run(1) to the end", 1, yard.run(1));
        Check.same("a body is kept for the next run", 3, yard.add(0, 0, 100));
        yard.begin(0, 0, 1, 0);
        yard.run(200);
        Check.same("result of all three", 111, yard.result());
    }

    private static void refuses(PhaserYard yard, int b, int op, int a) {
        Check.refuses("add(" + b + ", " + op + ", " + a + ")", IllegalArgumentException.class,
            () -> yard.add(b, op, a));
    }
}
