/** Terms: DEQUES, HANDS, STEALING and POLICY, tick by tick. */
public final class TermsWorkersTest {
    public static void main(String[] args) {
        takesItsLast();
        stealsTheFirst();
        stealsFromTheNext();
        takesTheNewOneByPolicy();
        neverTakesOneByWhen();
        wakesByNumber();
        wakesWhereTheStepWas();
        Check.end();
    }

    private static void takesItsLast() {
        PhaserYard yard = Script.yard("ASYNC 1, ASYNC 2, ASYNC 3", "ADD 1, SAY", "ADD 2, SAY", "ADD 3, SAY");
        yard.begin(0, 0, 1, 0);
        yard.run(5);
        Check.same("nothing at hand after the end", -1, yard.count(20));
        yard.run(1);
        Check.same("the last one is taken", 3, yard.count(20));
        Check.same("two are left", 2, yard.count(30));
        Check.same("to take is no step", 4, yard.count(3));
        yard.run(200);
        Script.says("the last one first", yard, 3, 2, 1);
        Check.same("nothing stolen by one worker", 0, yard.count(4));
    }

    private static void stealsTheFirst() {
        PhaserYard yard = Script.yard("WHEN 4, WHEN 4, WHEN 4, WHEN 4, PUT 0, GOTO 5", "ADD 1, GOTO 0");
        yard.begin(0, 0, 3, 0);
        yard.run(5);
        Check.same("nothing to steal yet", 0, yard.count(4));
        yard.run(1);
        Check.same("worker 1 stole the first", 1, yard.count(21));
        Check.same("worker 2 stole the next", 2, yard.count(22));
        Check.same("stolen", 2, yard.count(4));
        Check.same("left", 2, yard.count(30));
        Check.same("the first of these", 3, yard.count(40));
        Check.same("the last of these", 4, yard.count(41));
        Check.same("to steal is no step", 5, yard.count(3));
        Check.same("nothing else in this tick", 0, yard.task(1, 2));
        yard.run(1);
        Check.same("in the next tick it goes on", 1, yard.task(1, 2));
    }

    private static void stealsFromTheNext() {
        PhaserYard yard = Script.yard("ASYNC 1, ASYNC 2, ASYNC 3, GOTO 3", "ADD 1, ADD 1", "ASYNC 3, GOTO 1", "GET 0");
        yard.begin(0, 0, 3, 0);
        yard.run(5);
        Check.same("worker 1 has none", -1, yard.count(21));
        Check.same("worker 0 has one to steal", 3, yard.count(40));
        Check.same("worker 2 has one to steal", 1, yard.count(32));
        yard.run(1);
        Check.same("worker 1 stole from worker 2", 4, yard.count(21));
        Check.same("worker 0 keeps its own", 3, yard.count(40));
        yard.run(2);
        Check.same("then from worker 0, behind the last", 3, yard.count(21));
        Check.same("stolen", 4, yard.count(4));
    }

    private static void takesTheNewOneByPolicy() {
        for (String spawn : new String[] {"ASYNC 1", "HANDS 1"}) {
            PhaserYard yard = Script.yard(spawn + ", " + spawn + ", SAY",
                spawn.replace('1', '2') + ", ADD 1, SAY", "ADD 5, SAY");
            yard.begin(0, 0, 1, 1);
            yard.run(2);
            Check.same(spawn + ": the new one is at hand", 1, yard.count(20));
            Script.isState(spawn + ": the new one", yard, 1, Script.AT_HAND);
            Script.isState(spawn + ": the maker", yard, 0, Script.IN_DEQUE);
            Check.same(spawn + ": place of the maker", 1, yard.task(0, 2));
            yard.run(1);
            Check.same(spawn + ": the newest is at hand", 2, yard.count(20));
            Check.same(spawn + ": its maker is behind", 1, yard.count(41));
            Check.same(spawn + ": the first maker is before", 0, yard.count(40));
            yard.run(200);
            Script.says(spawn, yard, 5, 1, 5, 1, 0);
        }
    }

    private static void neverTakesOneByWhen() {
        PhaserYard yard = Script.yard("PUT 0, WHEN 4, WHEN 5", "ADD 1");
        yard.begin(0, 0, 1, 1);
        yard.run(3);
        Check.same("the maker stays at hand", 0, yard.count(20));
        Script.isState("its future was put", yard, 1, Script.IN_DEQUE);
        Check.same("it is in the deque", 1, yard.count(40));
        yard.run(1);
        Script.isState("its future was not put", yard, 2, Script.WAITS);
        Check.same("the deque", 1, yard.count(30));
    }

    private static void wakesByNumber() {
        PhaserYard yard = Script.yard("WHEN 4, ASYNC 2, WHEN 4, GET 1, ASYNC 7, PUT 0, GOTO 6",
            "ADD 1", "PUT 1, GET 0");
        yard.begin(0, 0, 1, 0);
        yard.run(11);
        Check.same("one is there before the put", 1, yard.count(30));
        Script.isState("in its get", yard, 2, Script.WAITS);
        yard.run(1);
        int[] due = {4, 1, 2, 3};
        Check.same("all are ready by the put", 4, yard.count(30));
        for (int k = 0; k < due.length; k++) {
            Check.same("place " + k + " in the deque", due[k], yard.count(40 + k));
        }
    }

    private static void wakesWhereTheStepWas() {
        PhaserYard yard = Script.yard("OPEN 0, ASYNC 1, CLOSE, SAY", "ADD 1, ADD 1, ADD 1");
        yard.begin(0, 0, 2, 0);
        yard.run(7);
        Check.same("worker 1 did the last step", 1, yard.count(31));
        Check.same("what it made ready is in its deque", 0, yard.count(100));
        Check.same("deque of worker 0", 0, yard.count(30));
        yard.run(1);
        Check.same("worker 0 stole it", 0, yard.count(20));
        Check.same("stolen", 2, yard.count(4));
    }
}
