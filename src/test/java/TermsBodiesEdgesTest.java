/** Terms, BODY and PLACE: the first and the last BODY and PLACE, empty BODIES, and PLACES behind the last. */
public final class TermsBodiesEdgesTest {
    private static final String SIXTEEN = Script.repeated("ADD 1", 16);

    public static void main(String[] args) {
        eachBodyIsDone();
        emptyBodyIsOneStep();
        fullBodyIsSixteenAndItsEnd();
        firstAndLastPlaceByGoto();
        firstAndLastPlaceByIf();
        placeBehindTheLastIsTheEnd();
        endStaysWhereTheTaskCameTo();
        Check.end();
    }

    private static void eachBodyIsDone() {
        for (int b = 0; b < 8; b++) {
            for (String spawn : new String[] {"ASYNC " + b, "HANDS " + b, "WHEN " + b * 4}) {
                PhaserYard yard = new PhaserYard();
                for (int other = 0; other < 8; other++) {
                    Script.write(yard, other, other == b ? "TIMES 3, SAY" : "GOTO 15");
                }
                int maker = b == 0 ? 7 : 0;
                yard.body(maker);
                Script.write(yard, maker, "PUT 0, " + spawn);
                yard.begin(maker, 5, 1, 0);
                yard.run(200);
                Script.says(spawn, yard, 15);
                Check.same(spawn + ": body", b, yard.task(1, 3));
            }
        }
    }

    private static void emptyBodyIsOneStep() {
        PhaserYard yard = Script.ran(200, 5, "");
        Check.same("an empty body: steps", 1, yard.count(3));
        Check.same("an empty body: ticks", 2, yard.count(2));
        Check.same("an empty body: place", 0, yard.task(0, 2));
        Check.same("an empty body: result", 5, yard.result());
        PhaserYard children = Script.ran(200, 5, "OPEN 0, ASYNC 7, HANDS 7, PUT 0, WHEN 28, CLOSE");
        Check.same("children of an empty body: over", 1, children.count(10));
        Check.same("children of an empty body: tasks", 4, children.count(0));
        Check.same("children of an empty body: result", 5, children.result());
    }

    private static void fullBodyIsSixteenAndItsEnd() {
        PhaserYard yard = Script.ran(200, 0, SIXTEEN);
        Check.same("a full body: result", 16, yard.result());
        Check.same("a full body: steps", 17, yard.count(3));
        Check.same("a full body: place", 16, yard.task(0, 2));
    }

    private static void firstAndLastPlaceByGoto() {
        Check.same("goto 15 does the last of sixteen", 1,
            Script.resultOf(0, "GOTO 15, " + Script.repeated("ADD 10", 14) + ", ADD 1"));
        PhaserYard yard = Script.ran(4, 0, "ADD 1, GOTO 0");
        Check.same("goto 0 does the first again", 2, yard.task(0, 1));
        Check.same("a goto to itself stays", 3, Script.ran(5, 0, "SAY, SAY, SAY, GOTO 3").task(0, 2));
    }

    private static void firstAndLastPlaceByIf() {
        String last = "IF 15, " + Script.repeated("ADD 10", 14) + ", ADD 1";
        for (int sum : new int[] {1, -1, Integer.MIN_VALUE, Integer.MAX_VALUE}) {
            Check.same("if 15 with " + sum, sum + 1, Script.resultOf(sum, last));
        }
        Check.same("if 15 with 0", 141, Script.resultOf(0, last));
        Check.same("if 0 till the sum is 0", 3, Script.ran(200, 3, "SAY, ADD -1, IF 0").count(5));
        Check.same("a sum that wrapped to 0", 7, Script.resultOf(65536, "TIMES 65536, IF 3, ADD 7"));
    }

    private static void placeBehindTheLastIsTheEnd() {
        for (String jump : new String[] {"GOTO ", "IF "}) {
            for (int place = 1; place <= 15; place++) {
                PhaserYard yard = Script.ran(200, 4, jump + place);
                Check.same(jump + place + " in a body of one: steps", 2, yard.count(3));
                Check.same(jump + place + " in a body of one: result", 4, yard.result());
                Check.same(jump + place + " in a body of one: place", place, yard.task(0, 2));
            }
        }
    }

    private static void endStaysWhereTheTaskCameTo() {
        PhaserYard yard = Script.ran(4, 4, "OPEN 0, GOTO 9, ADD 1");
        Check.same("its scope is to end at place 9", 9, yard.task(0, 2));
        yard.run(1);
        Check.same("its scope is gone", 0, yard.task(0, 4));
        Check.same("it is at place 9 still", 9, yard.task(0, 2));
        Script.write(yard, 0, Script.repeated("ADD 100", 7));
        yard.run(200);
        Check.same("it does place 9 alone of what was added", 104, yard.result());
    }
}
