/** Terms: COUNT, TOTAL, HANDLER and END of SCOPES, and where codes come to. */
public final class TermsScopesTest {
    public static void main(String[] args) {
        totalsByKind();
        totalsOfNothing();
        givesToTheInnerScope();
        waitsForAllBegunInIt();
        endsInStepsOfItsOwn();
        endsWithTheBody();
        handlesTheLeastCode();
        throwsOnWithoutHandler();
        aCodeWithoutOwnScopeComesHome();
        Check.end();
    }

    private static void totalsByKind() {
        int[] due = {2 + 12, 5, 7, 2 + 35};
        for (int kind = 0; kind < 4; kind++) {
            Check.same("kind " + kind, due[kind],
                Script.resultOf(2, "OPEN " + kind + ", ASYNC 1, ASYNC 2, CLOSE", "ADD 3, GIVE", "ADD 5, GIVE"));
        }
        Check.same("a sum wraps", Integer.MAX_VALUE - 2,
            Script.resultOf(Integer.MAX_VALUE, "OPEN 0, GIVE, GIVE, CLOSE"));
        Check.same("a product wraps", 65536, Script.resultOf(65536, "OPEN 3, GIVE, GIVE, CLOSE"));
    }

    private static void totalsOfNothing() {
        int[] due = {9, Integer.MAX_VALUE, Integer.MIN_VALUE, 10};
        for (int kind = 0; kind < 4; kind++) {
            Check.same("nothing in kind " + kind, due[kind], Script.resultOf(9, "OPEN " + kind + ", CLOSE"));
            Check.same("a scope opened again in kind " + kind, due[kind],
                Script.resultOf(9, "OPEN 0, GIVE, CLOSE, ADD -9, OPEN " + kind + ", CLOSE"));
        }
    }

    private static void givesToTheInnerScope() {
        Check.same("to its latest own one", 4 + 4, Script.resultOf(4, "OPEN 2, OPEN 0, GIVE, CLOSE, GIVE, CLOSE"));
        Check.same("to the outer one after a close", 1,
            Script.resultOf(1, "OPEN 1, OPEN 0, CLOSE, GIVE, ADD 8, CLOSE"));
        Check.same("a child gives to its home", 3 + 4, Script.resultOf(3, "OPEN 0, ASYNC 1, CLOSE", "ADD 1, GIVE"));
        Check.same("a child with an own one gives to that", 3,
            Script.resultOf(3, "OPEN 0, ASYNC 1, CLOSE", "OPEN 0, GIVE, CLOSE"));
        Check.same("a grandchild gives to the same home", 3 + 3,
            Script.resultOf(3, "OPEN 0, ASYNC 1, CLOSE", "ASYNC 2", "GIVE"));
    }

    private static void waitsForAllBegunInIt() {
        PhaserYard yard = Script.yard("OPEN 0, ASYNC 1, CLOSE, ADD 9, SAY", "ASYNC 2", "ADD 1, ADD 1, SAY");
        for (int workers = 1; workers <= 3; workers++) {
            for (int policy = 0; policy < 2; policy++) {
                yard.begin(0, 0, workers, policy);
                yard.run(200);
                Script.says("the grandchild first", yard, 2, 9);
            }
        }
        PhaserYard outer = Script.yard("OPEN 0, ASYNC 1, OPEN 0, ASYNC 2, CLOSE, SAY, CLOSE", "GET 0", "ADD 5");
        outer.begin(0, 1, 1, 0);
        Check.refuses("the outer scope waits", UnsupportedOperationException.class, () -> outer.run(200));
        Script.says("the inner scope did not", outer, 1);
        Check.same("one scope is left", 1, outer.task(0, 4));
        PhaserYard free = Script.yard("ASYNC 1, OPEN 0, CLOSE, SAY", "GET 0");
        free.begin(0, 1, 1, 0);
        Check.refuses("the root scope waits", UnsupportedOperationException.class, () -> free.run(200));
        Script.says("what was begun outside is not waited for", free, 1);
    }

    private static void endsInStepsOfItsOwn() {
        steps("open, close, end of the scope, end of the body", 4, "OPEN 0, CLOSE");
        steps("open, end of the body, end of the scope, end of the body", 4, "OPEN 0");
        steps("open, throw, end of the scope", 3, "OPEN 0, THROW 10");
        steps("throw", 1, "THROW 10");
        PhaserYard yard = Script.yard("OPEN 0, ASYNC 1, CLOSE", "ADD 1");
        yard.begin(0, 0, 1, 0);
        yard.run(4);
        Script.isState("after the close", yard, 0, Script.AT_HAND);
        yard.run(1);
        Script.isState("after the step that must wait", yard, 0, Script.WAITS);
        Check.same("steps till then", 4, yard.count(3));
        Check.same("its scope is open", 1, yard.task(0, 4));
        yard.run(3);
        Script.isState("after the end of the child", yard, 0, Script.IN_DEQUE);
        Check.same("its scope is open still", 1, yard.task(0, 4));
        yard.run(2);
        Check.same("its scope is gone", 0, yard.task(0, 4));
        Check.same("steps with the end of the scope", 7, yard.count(3));
        Script.isState("after the end of the scope", yard, 0, Script.AT_HAND);
        Check.same("place behind the close", 3, yard.task(0, 2));
    }

    private static void steps(String what, int due, String body) {
        PhaserYard yard = Script.yard(body);
        yard.begin(0, 0, 1, 0);
        Check.same(what + ": over", 1, yard.run(200));
        Check.same(what + ": steps", due, yard.count(3));
        Check.same(what + ": ticks", due + 1, yard.count(2));
    }

    private static void endsWithTheBody() {
        Check.same("all own scopes end", 5 + 5 + 5, Script.resultOf(4, "OPEN 0, ADD 1, GIVE, OPEN 0, GIVE"));
        Check.same("they wait too", 4 + 5, Script.resultOf(4, "OPEN 0, ASYNC 1", "ADD 1, GIVE"));
        Check.same("they throw too", 31, Script.codeOf("OPEN 0, ASYNC 1", "THROW 31"));
    }

    private static void handlesTheLeastCode() {
        Check.same("the least of two, not the first", 20,
            Script.resultOf(3, "OPEN 16, GIVE, ASYNC 1, THROW 50", "THROW 20"));
        Check.same("the least of two, not the last", 20,
            Script.resultOf(3, "OPEN 16, GIVE, ASYNC 1, THROW 20", "THROW 50"));
        Check.same("the handler has its place", 21, Script.resultOf(0, "OPEN 14, THROW 20, ADD 5, ADD 1"));
        Check.same("the last handler", 20, Script.resultOf(0, "OPEN 60, THROW 20, ADD 5"));
        Check.same("no handler without a code", 5, Script.resultOf(0, "OPEN 12, CLOSE, GOTO 4, ADD 9, ADD 5"));
        Check.same("a code of the handler comes to the next scope", 42,
            Script.codeOf("OPEN 12, THROW 10, SAY, THROW 42"));
        PhaserYard yard = Script.yard("OPEN 12, ASYNC 1, THROW 50, SAY", "SAY, ADD 1, SAY");
        yard.begin(0, 7, 1, 0);
        yard.run(200);
        Script.says("after a throw the scope waits for the others", yard, 7, 8, 50);
        Check.same("nothing came to the root", 50, yard.result());
    }

    private static void throwsOnWithoutHandler() {
        Check.same("to an outer handler", 42, Script.resultOf(0, "OPEN 20, OPEN 0, THROW 40, SAY, SAY, ADD 2"));
        PhaserYard yard = Script.yard("OPEN 0, OPEN 1, OPEN 2, ADD 3, THROW 40");
        yard.begin(0, 1, 1, 0);
        yard.run(6);
        Check.same("own scopes at the throw", 3, yard.task(0, 4));
        yard.run(1);
        Check.same("one is gone", 2, yard.task(0, 4));
        yard.run(1);
        Check.same("two are gone", 1, yard.task(0, 4));
        Check.same("not at the root yet", 0, yard.count(6));
        Check.same("over", 1, yard.run(1));
        Check.same("the code at the root", 40, yard.count(7));
        Check.same("one code at the root", 1, yard.count(6));
        Check.same("the sum stays without handler", 4, yard.task(0, 1));
        Check.same("the place stays without handler", 4, yard.task(0, 2));
        Check.same("the outer scope is waited for", 11, Script.codeOf("OPEN 0, ASYNC 1, OPEN 0, THROW 40", "THROW 11"));
    }

    private static void aCodeWithoutOwnScopeComesHome() {
        PhaserYard yard = Script.yard("OPEN 16, ASYNC 1, CLOSE, SAY, SAY", "ASYNC 2, THROW 70", "ADD 1, SAY");
        yard.begin(0, 5, 1, 0);
        yard.run(200);
        Script.says("the others go on, then the handler", yard, 6, 70);
        Check.same("nothing came to the root", 0, yard.count(6));
        Script.isState("what threw", yard, 1, Script.DONE);
        Check.same("a child's own handler keeps it", 8,
            Script.resultOf(8, "OPEN 0, ASYNC 1, CLOSE", "OPEN 12, THROW 70"));
    }
}
