/** Terms, SCOPES: the third own one and the next, none, one and all in a COUNT, and the first and last HANDLER. */
public final class TermsScopesEdgesTest {
    public static void main(String[] args) {
        thirdIsTaken();
        fourthThrowsIntoTheThird();
        eachTaskHasThree();
        aScopeGoneMakesRoom();
        closeWithoutAnyThrows();
        homeIsNotOwn();
        countOfNothingIsNotWaitedFor();
        countOfOneAndOfAll();
        firstAndLastHandler();
        handlerZeroIsNone();
        handlerBehindTheLastPlace();
        leastOfTheCodes();
        codesKeepTheTotalBack();
        endOfTheBodyEndsThree();
        rootScopeHasKindZeroAndNoHandler();
        Check.end();
    }

    private static void thirdIsTaken() {
        PhaserYard yard = Script.ran(4, 1, "OPEN 0, OPEN 0, OPEN 0, CLOSE, CLOSE, CLOSE, SAY");
        Check.same("three are open", 3, yard.task(0, 4));
        yard.run(200);
        Script.says("three are closed", yard, 1);
        Check.same("no code", 1, yard.result());
    }

    private static void fourthThrowsIntoTheThird() {
        String opens = "OPEN 56, OPEN 56, OPEN 20, OPEN 0, SAY";
        PhaserYard yard = Script.ran(5, 7, opens + ", ADD 100, SAY");
        Check.same("three stay open", 3, yard.task(0, 4));
        Check.same("its place stays", 3, yard.task(0, 2));
        Check.same("its sum stays", 7, yard.task(0, 1));
        yard.run(1);
        Check.same("the third is gone", 2, yard.task(0, 4));
        Check.same("the handler of the third", 5, yard.task(0, 2));
        Check.same("with the code", 1, yard.task(0, 1));
        yard.run(200);
        Script.says("it goes on there", yard, 101);
    }

    private static void eachTaskHasThree() {
        String three = Script.repeated("OPEN 0", 3);
        PhaserYard yard = Script.ran(200, 1, three + ", ASYNC 1, ASYNC 1", three + ", ASYNC 2", three + ", GIVE");
        Check.same("over", 1, yard.count(10));
        Check.same("all five", 5, yard.count(0));
        Check.same("no code", 0, yard.count(6));
    }

    private static void aScopeGoneMakesRoom() {
        PhaserYard yard = Script.ran(200, 1,
            Script.repeated("OPEN 0", 3) + ", CLOSE, OPEN 0, CLOSE, CLOSE, OPEN 0, OPEN 0, SAY");
        Check.same("no code", 0, yard.count(6));
        Script.says("all were opened", yard, 1);
        Check.same("a scope to end is open still", 3,
            Script.ran(5, 1, Script.repeated("OPEN 0", 3) + ", CLOSE").task(0, 4));
    }

    private static void closeWithoutAnyThrows() {
        Check.same("close at first", 4, Script.codeOf("CLOSE"));
        for (int open = 1; open <= 3; open++) {
            String body = Script.repeated("OPEN 0", open) + ", " + Script.repeated("CLOSE", open);
            Check.same("as many closes as " + open + " scopes", 0, Script.codeOf(body));
            Check.same("one close more than " + open + " scopes", 4, Script.codeOf(body + ", CLOSE"));
        }
    }

    private static void homeIsNotOwn() {
        PhaserYard yard = Script.ran(200, 9, "OPEN 12, ASYNC 1, CLOSE, SAY", "CLOSE, SAY");
        Script.says("a child can not close its home", yard, 4);
        Check.same("nor is it counted as own", 0, yard.task(1, 4));
    }

    private static void countOfNothingIsNotWaitedFor() {
        PhaserYard yard = Script.ran(3, 1, "OPEN 0, CLOSE, SAY");
        Script.isState("after the close", yard, 0, Script.AT_HAND);
        yard.run(1);
        Script.isState("after the end of the scope", yard, 0, Script.AT_HAND);
        Check.same("its scope is gone", 0, yard.task(0, 4));
        Check.same("it is behind the close", 2, yard.task(0, 2));
    }

    private static void countOfOneAndOfAll() {
        for (int count : new int[] {1, 2, 46, 47}) {
            PhaserYard yard = Script.begun(count, 1, 0, "OPEN 0, ASYNC 1, ADD -1, IF 1, CLOSE", "GIVE");
            Script.runOn(yard, 1000);
            Check.same("a count of " + count + ": over", 1, yard.count(10));
            Check.same("a count of " + count + ": result", count * (count + 1) / 2, yard.result());
        }
        lastOfAllEndsTheWait();
    }

    private static void lastOfAllEndsTheWait() {
        PhaserYard yard = Script.begun(47, 1, 0, "OPEN 0, ASYNC 1, ADD -1, IF 1, CLOSE", "");
        Script.runOn(yard, 1 + 1 + 47 * 3 + 2);
        Script.isState("with all 47", yard, 0, Script.WAITS);
        Script.runOn(yard, 46 * 2 + 1);
        Script.isState("with the last one", yard, 0, Script.WAITS);
        Check.same("not done: it and the last one", 2, yard.count(1));
        yard.run(1);
        Script.isState("without any", yard, 0, Script.IN_DEQUE);
    }

    private static void firstAndLastHandler() {
        PhaserYard first = Script.ran(200, 2, "OPEN 4, ADD 5, SAY, THROW 10");
        Script.says("a handler at place 1", first, 7, 15);
        Check.same("the second code comes to the root", 10, first.count(7));
        for (int kind = 0; kind <= 3; kind++) {
            PhaserYard last = Script.ran(200, 2,
                "OPEN " + (60 + kind) + ", THROW 10, " + Script.repeated("SAY", 13) + ", ADD 1");
            Check.same("a handler at place 15", 11, last.result());
            Script.says("and nowhere before", last);
        }
        for (int handler = 1; handler <= 15; handler++) {
            PhaserYard yard = Script.ran(4, 2, "OPEN " + handler * 4 + ", THROW 10");
            Check.same("place by the handler", handler, yard.task(0, 2));
            Check.same("sum by the handler", 10, yard.task(0, 1));
        }
    }

    private static void handlerZeroIsNone() {
        for (int kind = 0; kind <= 3; kind++) {
            PhaserYard yard = Script.ran(200, 2, "OPEN " + kind + ", SAY, THROW 10");
            Check.same("over", 1, yard.count(10));
            Script.says("kind " + kind + " does not begin anew", yard, 2);
            Check.same("kind " + kind + ": the code comes to the root", 10, yard.count(7));
        }
    }

    private static void handlerBehindTheLastPlace() {
        PhaserYard yard = Script.ran(200, 2, "OPEN 60, THROW 10");
        Check.same("the end of the body is there", 10, yard.result());
        Check.same("its place", 15, yard.task(0, 2));
        Check.same("steps", 4, yard.count(3));
    }

    private static void leastOfTheCodes() {
        int[][] codes = {{10, 99}, {99, 10}, {10, 10}, {99, 98}, {50, 51}};
        for (int[] pair : codes) {
            PhaserYard yard = Script.ran(200, 0, "OPEN 16, ASYNC 1, ASYNC 2, CLOSE, SAY",
                "THROW " + pair[0], "THROW " + pair[1]);
            Script.says("the least of " + pair[0] + " and " + pair[1], yard, Math.min(pair[0], pair[1]));
        }
        PhaserYard one = Script.ran(200, 0, "OPEN 16, ASYNC 1, ASYNC 2, CLOSE, SAY", "THROW 99", "");
        Script.says("the least of one", one, 99);
        PhaserYard own = Script.ran(200, 0, "OPEN 20, ASYNC 1, ASYNC 2, ASYNC 3, THROW 10, SAY",
            "CLOSE", "LEAVE 0", "THROW 10");
        Script.says("the codes of instructions are less than those of throw", own, 3);
    }

    private static void codesKeepTheTotalBack() {
        for (int kind = 0; kind <= 3; kind++) {
            Check.same("kind " + kind + " with a code", 33,
                Script.resultOf(8, "OPEN " + (kind + 16) + ", GIVE, ASYNC 1, CLOSE", "GIVE, THROW 33"));
        }
    }

    private static void endOfTheBodyEndsThree() {
        PhaserYard yard = Script.ran(4, 1, Script.repeated("OPEN 0", 3));
        for (int open = 3; open >= 1; open--) {
            yard.run(1);
            Check.same("the end of the body", open, yard.task(0, 4));
            yard.run(1);
            Check.same("the end of the scope", open - 1, yard.task(0, 4));
            Script.isState("it goes on", yard, 0, Script.AT_HAND);
        }
        Check.same("the end of the body without one", 1, yard.run(1));
        Check.same("steps", 10, yard.count(3));
    }

    private static void rootScopeHasKindZeroAndNoHandler() {
        Check.same("gives to the root are added", 7 + 5 + 6, Script.resultOf(5, "GIVE, ADD 1, GIVE, ADD 1"));
        PhaserYard yard = Script.ran(200, 5, "SAY, THROW 10");
        Script.says("a code in the root has no handler", yard, 5);
        Check.same("it stays there", 1, yard.count(6));
    }
}
