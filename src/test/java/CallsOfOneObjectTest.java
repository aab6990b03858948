/** 'What it is': an object is used for 512 calls, and answers the last of them as it does the first. */
public final class CallsOfOneObjectTest {
    private static final int CALLS = 512;

    public static void main(String[] args) {
        ticksTillTheLastCall();
        phasesTillTheLastCall();
        numbersSaidTillTheLastCall();
        bodiesTillTheLastCall();
        beginsTillTheLastCall();
        refusalsTillTheLastCall();
        fullRunsTillTheLastCall();
        Check.end();
    }

    private static void ticksTillTheLastCall() {
        PhaserYard yard = new PhaserYard();
        yard.add(0, 16, 0);
        yard.begin(0, 0, 3, 0);
        for (int call = 3; call < CALLS; call++) {
            Check.same("call " + call + " of run(200)", 0, yard.run(200));
        }
        Check.same("ticks by the last call", (CALLS - 3) * 200, yard.count(2));
    }

    private static void phasesTillTheLastCall() {
        PhaserYard yard = Script.yard("JOIN 3, NEXT, GOTO 1");
        yard.begin(0, 0, 1, 0);
        for (int call = 5; call < CALLS; call++) {
            yard.run(200);
        }
        Check.same("the phase by the last call", ((CALLS - 5) * 200 - 2 + 1) / 2, yard.count(8));
    }

    private static void numbersSaidTillTheLastCall() {
        PhaserYard yard = Script.yard("SAY, ADD 1, GOTO 0");
        yard.begin(0, 0, 1, 0);
        for (int call = 5; call < CALLS - 1; call++) {
            yard.run(200);
        }
        Check.same("numbers said by then", ((CALLS - 6) * 200 - 1 + 2) / 3, yard.count(5));
        Check.same("the last one kept, by the last call", 39, yard.said(39));
    }

    private static void bodiesTillTheLastCall() {
        PhaserYard yard = new PhaserYard();
        int call = 0;
        while (call + 17 < CALLS) {
            for (int size = 1; size <= 16; size++) {
                Check.same("add in call " + (call + size), size, yard.add(7, 14, 0));
            }
            Check.same("body in call " + (call + 17), 16, yard.body(7));
            call += 17;
        }
        Check.same("add in the last call but one", 1, yard.add(7, 14, 0));
        Check.same("body in the last call", 1, yard.body(7));
    }

    private static void beginsTillTheLastCall() {
        PhaserYard yard = Script.yard("ADD 1, GIVE");
        for (int call = 3; call + 2 <= CALLS; call += 3) {
            yard.begin(0, call, 1 + call % 3, call % 2);
            Check.same("run after call " + call, 1, yard.run(4));
            Check.same("result after call " + call, 2 * (call + 1), yard.result());
        }
    }

    private static void refusalsTillTheLastCall() {
        PhaserYard yard = Script.yard("ADD 1");
        yard.begin(0, 4, 1, 0);
        for (int call = 3; call < CALLS - 1; call++) {
            Check.refuses("run(201) in call " + call, IllegalArgumentException.class, () -> yard.run(201));
        }
        Check.same("run in the last call but one", 1, yard.run(3));
        Check.same("result in the last call", 5, yard.result());
    }

    private static void fullRunsTillTheLastCall() {
        PhaserYard yard = Script.yard("JOIN 3, HANDS 1, ADD -1, IF 1, NEXT", "OPEN 3, OPEN 0, OPEN 2, GIVE, NEXT");
        int calls = 10;
        while (calls + 7 <= CALLS) {
            yard.begin(0, 47, 3, 1);
            for (int i = 0; i < 4; i++) {
                yard.run(200);
            }
            Check.same("tasks of a full run", 48, yard.count(0));
            Check.same("a full run is over", 1, yard.count(10));
            calls += 7;
        }
    }
}
