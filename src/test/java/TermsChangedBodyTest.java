/** Terms: what a TASK that WAITS goes on with if its BODY is another one then. */
public final class TermsChangedBodyTest {
    public static void main(String[] args) {
        closeGoesOnBehindIt();
        endOfTheBodyGoesOnThere();
        closeInABodyThatIsEmptyThen();
        closeAtTheLastPlace();
        handlerInAnotherBody();
        getIsDone();
        nextIsDone();
        Check.end();
    }

    private static void closeGoesOnBehindIt() {
        PhaserYard yard = Script.yard("OPEN 0, ASYNC 1, CLOSE", "ADD 1, GIVE");
        yard.begin(0, 1, 1, 0);
        yard.run(5);
        Script.isState("at its close", yard, 0, Script.WAITS);
        yard.body(0);
        Script.write(yard, 0, "SAY, SAY, SAY, ADD 50");
        Check.same("over", 1, yard.run(200));
        Script.says("it goes on behind the close", yard);
        Check.same("result", 1 + 2 + 50, yard.result());
    }

    private static void closeInABodyThatIsEmptyThen() {
        PhaserYard yard = Script.ran(5, 1, "OPEN 0, ASYNC 1, CLOSE, THROW 10", "ADD 1, GIVE");
        Script.isState("at its close", yard, 0, Script.WAITS);
        yard.body(0);
        Check.same("over", 1, yard.run(200));
        Check.same("the total came to the sum", 1 + 2, yard.result());
        Check.same("its end is behind the close that was", 3, yard.task(0, 2));
    }

    private static void closeAtTheLastPlace() {
        PhaserYard yard = Script.ran(200, 1, "OPEN 0, GIVE, " + Script.repeated("ADD 1", 13) + ", CLOSE");
        Check.same("its end is behind the last place", 16, yard.task(0, 2));
        Check.same("the total came to the sum", 14 + 1, yard.result());
    }

    private static void handlerInAnotherBody() {
        PhaserYard yard = Script.ran(5, 1, "OPEN 16, ASYNC 1, CLOSE, SAY, SAY", "THROW 20");
        Script.isState("at its close", yard, 0, Script.WAITS);
        yard.body(0);
        Script.write(yard, 0, Script.repeated("THROW 30", 4) + ", ADD 7");
        Check.same("over", 1, yard.run(200));
        Check.same("it goes on at the handler's place", 27, yard.result());
    }

    private static void endOfTheBodyGoesOnThere() {
        PhaserYard yard = Script.yard("OPEN 0, ASYNC 1", "ADD 1, GIVE");
        yard.begin(0, 1, 1, 0);
        yard.run(5);
        Script.isState("at the end of its body", yard, 0, Script.WAITS);
        Script.write(yard, 0, "CLOSE, ADD 50");
        Check.same("over", 1, yard.run(200));
        Check.same("the close has no scope any more", 4, yard.count(7));
        Check.same("its place", 2, yard.task(0, 2));
        Check.same("the total came to the sum", 3, yard.task(0, 1));
    }

    private static void getIsDone() {
        PhaserYard yard = Script.yard("ASYNC 1, GET 0, SAY", "ADD 1, PUT 0");
        yard.begin(0, 1, 1, 0);
        yard.run(3);
        Script.isState("at its get", yard, 0, Script.WAITS);
        yard.body(0);
        Script.write(yard, 0, "THROW 50, THROW 60, ADD 100");
        Check.same("over", 1, yard.run(200));
        Check.same("the get is done and the next place follows", 1 + 2 + 100, yard.result());
    }

    private static void nextIsDone() {
        PhaserYard yard = Script.yard("JOIN 3, HANDS 1, NEXT, SAY", "NEXT, GET 3");
        yard.begin(0, 1, 1, 0);
        yard.run(4);
        Script.isState("at its next", yard, 0, Script.WAITS);
        yard.body(0);
        Script.write(yard, 0, "SAY, SAY, SAY, NEXT, SAY");
        Check.refuses("the new next waits", UnsupportedOperationException.class, () -> yard.run(200));
        Check.same("place of the new next", 3, yard.task(0, 2));
        Script.says("nothing of the new body before it", yard);
        Check.same("phase", 1, yard.count(8));
    }
}
