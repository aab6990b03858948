/** Terms: what each INSTRUCTION does to the SUM, the PLACE, FUTURES and what is SAID. */
public final class TermsInstructionsTest {
    public static void main(String[] args) {
        reckons();
        jumps();
        spawns();
        putsOnce();
        gets();
        startsWhenPut();
        throwsCodes();
        Check.end();
    }

    private static void reckons() {
        Check.same("add", 12, Script.resultOf(5, "ADD 7"));
        Check.same("add wraps", Integer.MIN_VALUE, Script.resultOf(Integer.MAX_VALUE, "ADD 1"));
        Check.same("times", -15, Script.resultOf(5, "TIMES -3"));
        Check.same("times wraps", 0, Script.resultOf(65536, "TIMES 65536"));
    }

    private static void jumps() {
        Check.same("if with a sum goes to the place", 3, Script.resultOf(1, "IF 2, ADD 10, ADD 2"));
        Check.same("if with a sum below 0", 1, Script.resultOf(-1, "IF 2, ADD 10, ADD 2"));
        Check.same("if without goes on", 12, Script.resultOf(0, "IF 2, ADD 10, ADD 2"));
        Check.same("goto", 2, Script.resultOf(0, "GOTO 2, ADD 10, ADD 2"));
        Check.same("goto behind the end", 0, Script.resultOf(0, "GOTO 15, ADD 10"));
        Check.same("a loop", 0, Script.resultOf(7, "ADD -1, IF 0"));
        Check.same("a body of 16 has its end behind the last", 16, Script.resultOf(0,
            "ADD 1, ADD 1, ADD 1, ADD 1, ADD 1, ADD 1, ADD 1, ADD 1, "
            + "ADD 1, ADD 1, ADD 1, ADD 1, ADD 1, ADD 1, ADD 1, ADD 1"));
    }

    private static void spawns() {
        PhaserYard yard = Script.yard("ADD 2, ASYNC 1, ADD 3, HANDS 7, WHEN 9", "", "ADD 1");
        yard.begin(0, 1, 1, 0);
        yard.run(6);
        Check.same("tasks", 4, yard.count(0));
        Check.same("body by async", 1, yard.task(1, 3));
        Check.same("sum by async", 3, yard.task(1, 1));
        Check.same("body by hands", 7, yard.task(2, 3));
        Check.same("sum by hands", 6, yard.task(2, 1));
        Check.same("body by when", 2, yard.task(3, 3));
        Check.same("sum by when", 6, yard.task(3, 1));
        Script.isState("by when", yard, 3, Script.WAITS);
        Check.same("sum of the maker", 6, yard.task(0, 1));
        Check.same("place of the maker", 5, yard.task(0, 2));
    }

    private static void putsOnce() {
        PhaserYard yard = Script.yard("OPEN 20, PUT 1, ADD 1, PUT 1, SAY, SAY");
        yard.begin(0, 7, 1, 0);
        yard.run(200);
        Check.same("the first value stays", 7, yard.future(1));
        Script.says("code of the second put", yard, 2);
    }

    private static void gets() {
        Check.same("get of what was put", 13, Script.resultOf(4, "PUT 3, ADD 5, GET 3"));
        PhaserYard yard = Script.yard("PUT 0, GET 0");
        yard.begin(0, 4, 1, 0);
        Check.same("such a get is one step", 1, yard.run(4));
        PhaserYard waiting = Script.yard("ASYNC 1, GET 2, ADD 100", "ADD 10, PUT 1, PUT 2");
        waiting.begin(0, 1, 1, 0);
        waiting.run(6);
        Script.isState("another future is put", waiting, 0, Script.WAITS);
        waiting.run(1);
        Script.isState("its future is put", waiting, 0, Script.IN_DEQUE);
        Check.same("sum before the get is done", 1, waiting.task(0, 1));
        Check.same("run(200)", 1, waiting.run(200));
        Check.same("sum after it", 112, waiting.result());
        Check.same("steps: the wait and the get", 9, waiting.count(3));
    }

    private static void startsWhenPut() {
        PhaserYard yard = Script.yard("WHEN 6, ADD 1, PUT 1, ADD 1, PUT 2", "ADD 40, SAY");
        yard.begin(0, 1, 1, 0);
        yard.run(5);
        Script.isState("another future is put", yard, 1, Script.WAITS);
        Check.same("deque", 0, yard.count(30));
        yard.run(1);
        Script.isState("its future is put", yard, 1, Script.IN_DEQUE);
        yard.run(200);
        Script.says("it has the sum of its beginning", yard, 41);
        Check.same("its start is no step of its own", 9, yard.count(3));
        Check.same("a wait for what nobody puts", 0, stuckTasksDone("WHEN 4"));
    }

    private static int stuckTasksDone(String body) {
        PhaserYard yard = Script.yard("ASYNC 7, OPEN 0, " + body);
        yard.begin(0, 0, 1, 0);
        Check.refuses(body + " is stuck", UnsupportedOperationException.class, () -> yard.run(200));
        return yard.task(0, 0) == Script.WAITS && yard.task(1, 0) == Script.DONE ? 0 : 1;
    }

    private static void throwsCodes() {
        Check.same("throw 10", 10, Script.codeOf("THROW 10"));
        Check.same("throw 99", 99, Script.codeOf("THROW 99"));
        Check.same("put twice", 2, Script.codeOf("PUT 0, PUT 0"));
        Check.same("close without a scope", 4, Script.codeOf("CLOSE"));
        Check.same("a second close", 4, Script.codeOf("OPEN 0, CLOSE, CLOSE"));
        Check.same("a fourth scope", 1, Script.codeOf("OPEN 0, OPEN 0, OPEN 0, OPEN 0"));
        Check.same("a third scope", 0, Script.codeOf("OPEN 0, OPEN 0, OPEN 0"));
        Check.same("a scope after one was closed", 0, Script.codeOf("OPEN 0, OPEN 0, OPEN 0, CLOSE, OPEN 0"));
        for (String spawn : new String[] {"ASYNC 1", "HANDS 1", "WHEN 4"}) {
            PhaserYard yard = Script.yard("PUT 0, " + spawn + ", GOTO 1");
            yard.begin(0, 0, 1, 0);
            yard.run(200);
            Check.same(spawn + ": tasks", 48, yard.count(0));
            Check.same(spawn + ": one code", 1, yard.count(6));
            Check.same(spawn + ": the code", 1, yard.count(7));
            Check.same(spawn + ": place of what threw", 1, yard.task(0, 2));
        }
    }
}
