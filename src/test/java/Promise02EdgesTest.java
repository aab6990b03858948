/** Promise 2: the first and the last BODY, nothing, one and sixteen INSTRUCTIONS, and what is refused. */
public final class Promise02EdgesTest {
    public static void main(String[] args) {
        tellsNothingOneAndSixteen();
        emptiesNoOther();
        hasRoomForSixteenAgain();
        emptyBodyEndsWhatIsInIt();
        refusedCallsChangeNothing();
        Check.end();
    }

    private static void tellsNothingOneAndSixteen() {
        for (int b : new int[] {0, 7}) {
            for (int size : new int[] {0, 1, 15, 16}) {
                PhaserYard yard = new PhaserYard();
                fill(yard, b, size);
                Check.same("body(" + b + ") with " + size, size, yard.body(b));
                Check.same("body(" + b + ") emptied of " + size, 0, yard.body(b));
            }
        }
    }

    private static void emptiesNoOther() {
        PhaserYard yard = new PhaserYard();
        for (int b = 0; b < 8; b++) {
            fill(yard, b, b + 1);
        }
        yard.body(3);
        for (int b = 0; b < 8; b++) {
            Check.same("body(" + b + ") after body(3)", b == 3 ? 0 : b + 1, yard.body(b));
        }
    }

    private static void hasRoomForSixteenAgain() {
        PhaserYard yard = Script.yard(Script.repeated("ADD 1", 16));
        yard.body(0);
        Script.write(yard, 0, Script.repeated("ADD 10", 16));
        yard.begin(0, 0, 1, 0);
        yard.run(200);
        Check.same("nothing is left of the sixteen before", 160, yard.result());
    }

    private static void emptyBodyEndsWhatIsInIt() {
        for (int ticks = 0; ticks <= 16; ticks++) {
            PhaserYard yard = Script.ran(ticks, 0, Script.repeated("ADD 1", 16));
            int place = yard.task(0, 2);
            yard.body(0);
            Check.same("emptied after " + ticks + " ticks", 1, yard.run(ticks == 0 ? 2 : 1));
            Check.same("its place after " + ticks + " ticks", place, yard.task(0, 2));
        }
    }

    private static void refusedCallsChangeNothing() {
        for (Refusal where : Refusal.everywhere()) {
            for (int b : new int[] {-1, 8, Integer.MIN_VALUE, Integer.MAX_VALUE}) {
                where.changesNothing("body(" + b + ")", IllegalArgumentException.class, yard -> yard.body(b));
            }
        }
    }

    private static void fill(PhaserYard yard, int b, int size) {
        for (int i = 0; i < size; i++) {
            yard.add(b, 14, 0);
        }
    }
}
