/** Terms: JOIN, LEAVE, NEXT and HANDS, and when a PHASE rises. */
public final class TermsPhasersTest {
    public static void main(String[] args) {
        registersOnce();
        bothGoTogether();
        signalNeverWaits();
        waitFollowsOneByOne();
        leavingRaisesThePhase();
        joinsAtThePhase();
        waitsOnBothPhasers();
        handsSentAndSeen();
        asyncHandsNothing();
        Check.end();
    }

    private static void registersOnce() {
        Check.same("join again", 3, Script.codeOf("JOIN 3, JOIN 3"));
        Check.same("join again with another mode", 3, Script.codeOf("JOIN 1, JOIN 2"));
        Check.same("join both", 0, Script.codeOf("JOIN 3, JOIN 7"));
        Check.same("mode 0 on phaser 0", 3, Script.codeOf("JOIN 0"));
        Check.same("mode 0 on phaser 1", 3, Script.codeOf("JOIN 4"));
        Check.same("leave without join", 3, Script.codeOf("LEAVE 0"));
        Check.same("leave the other one", 3, Script.codeOf("JOIN 3, LEAVE 1"));
        Check.same("leave twice", 3, Script.codeOf("JOIN 3, LEAVE 0, LEAVE 0"));
        Check.same("join after leave", 0, Script.codeOf("JOIN 3, LEAVE 0, JOIN 1"));
        Check.same("next without any", 5, Script.resultOf(5, "NEXT, NEXT"));
        PhaserYard yard = Script.yard("JOIN 1, JOIN 6, LEAVE 0, JOIN 2");
        yard.begin(0, 0, 1, 0);
        yard.run(3);
        Check.same("mode on phaser 0", 1, yard.task(0, 5));
        Check.same("mode on phaser 1", 2, yard.task(0, 6));
        yard.run(2);
        Check.same("new mode on phaser 0", 2, yard.task(0, 5));
    }

    private static void bothGoTogether() {
        PhaserYard yard = Script.yard("JOIN 3, HANDS 1, NEXT, SAY, NEXT, SAY", "ADD 1, NEXT, SAY, NEXT, SAY");
        yard.begin(0, 0, 1, 0);
        yard.run(4);
        Script.isState("in its first next", yard, 0, Script.WAITS);
        Check.same("phase while one is missing", 0, yard.count(8));
        Check.same("place of a next that waits", 2, yard.task(0, 2));
        yard.run(3);
        Check.same("phase when both have sent", 1, yard.count(8));
        Script.isState("the last one goes on", yard, 1, Script.AT_HAND);
        Script.isState("the other one is ready", yard, 0, Script.IN_DEQUE);
        yard.run(2);
        Script.isState("in its second next", yard, 1, Script.WAITS);
        Check.same("a next done with another step sends once", 1, yard.count(8));
        yard.run(2);
        Check.same("the next that waited is done", 3, yard.task(0, 2));
        Check.same("and has not sent again", 1, yard.count(8));
        yard.run(200);
        Check.same("phase at the end", 2, yard.count(8));
        Script.says("turn by turn", yard, 1, 0, 0, 1);
    }

    private static void signalNeverWaits() {
        PhaserYard yard = Script.yard("JOIN 1, NEXT, NEXT, NEXT, SAY");
        yard.begin(0, 0, 1, 0);
        Check.same("run(7)", 1, yard.run(7));
        Check.same("phase by one alone", 3, yard.count(8));
        Check.same("phase of the other phaser", 0, yard.count(9));
        PhaserYard alone = Script.yard("JOIN 2, NEXT");
        alone.begin(0, 0, 1, 0);
        Check.refuses("wait without a signal", UnsupportedOperationException.class, () -> alone.run(200));
        Check.same("its phase", 0, alone.count(8));
    }

    private static void waitFollowsOneByOne() {
        PhaserYard yard = Script.yard("ASYNC 1, JOIN 5, NEXT, NEXT", "JOIN 6, NEXT, SAY, NEXT, ADD 1, SAY, NEXT, SAY");
        yard.begin(0, 0, 1, 1);
        Check.refuses("a third phase never comes", UnsupportedOperationException.class, () -> yard.run(200));
        Check.same("phase", 2, yard.count(9));
        Script.says("two phases were seen", yard, 0, 1);
        Check.same("place of the third next", 6, yard.task(1, 2));
    }

    private static void leavingRaisesThePhase() {
        PhaserYard yard = Script.yard("JOIN 1, HANDS 1, NEXT, NEXT, NEXT, GET 0", "LEAVE 0, PUT 0",
            "JOIN 3, HANDS 7, NEXT");
        yard.begin(0, 0, 1, 0);
        yard.run(7);
        Check.same("phase while one stays behind", 0, yard.count(8));
        yard.run(2);
        Check.same("phase is the least sent then", 3, yard.count(8));
        yard.run(200);
        Check.same("phase stays when all have left", 3, yard.count(8));
        yard.begin(2, 0, 1, 0);
        yard.run(5);
        Script.isState("in its next", yard, 0, Script.WAITS);
        yard.run(1);
        Script.isState("the other one is done", yard, 1, Script.DONE);
        Check.same("mode of one that is done", 0, yard.task(1, 5));
        Check.same("one that is done leaves", 1, yard.count(8));
        Script.isState("that ends the wait", yard, 0, Script.IN_DEQUE);
        Check.same("one that throws leaves too", 1, phaseAfterThrow());
    }

    private static int phaseAfterThrow() {
        PhaserYard yard = Script.yard("JOIN 3, HANDS 1, NEXT", "THROW 10");
        yard.begin(0, 0, 1, 0);
        yard.run(200);
        return yard.count(8);
    }

    private static void joinsAtThePhase() {
        PhaserYard yard = Script.yard("JOIN 1, NEXT, NEXT, LEAVE 0, JOIN 3, NEXT, SAY, LEAVE 0, JOIN 2, NEXT");
        yard.begin(0, 0, 1, 0);
        yard.run(7);
        Check.same("sent begins at the phase", 3, yard.count(8));
        Check.refuses("seen begins at the phase", UnsupportedOperationException.class, () -> yard.run(200));
        Script.says("the next before did not wait", yard, 0);
        Check.same("place of the next that waits", 9, yard.task(0, 2));
    }

    private static void waitsOnBothPhasers() {
        PhaserYard yard = Script.yard("JOIN 2, JOIN 6, ASYNC 1, NEXT, NEXT",
            "JOIN 1, NEXT, LEAVE 0, JOIN 5, NEXT, NEXT, GET 0");
        yard.begin(0, 0, 1, 0);
        yard.run(8);
        Check.same("phase 0", 1, yard.count(8));
        Script.isState("one phase is not enough", yard, 0, Script.WAITS);
        yard.run(3);
        Check.same("phase 1", 1, yard.count(9));
        Script.isState("both are", yard, 0, Script.IN_DEQUE);
        Check.refuses("phase 0 holds the second next", UnsupportedOperationException.class, () -> yard.run(200));
        Check.same("phase 1 at the end", 2, yard.count(9));
        Check.same("place of the second next", 4, yard.task(0, 2));
    }

    private static void handsSentAndSeen() {
        PhaserYard sent = Script.yard("JOIN 1, HANDS 1, NEXT, HANDS 2, GET 3", "LEAVE 0, GET 3", "GET 3");
        sent.begin(0, 0, 1, 0);
        Check.refuses("all wait", UnsupportedOperationException.class, () -> sent.run(200));
        Check.same("the second one has sent 1", 1, sent.count(8));
        Check.same("the second one has the mode", 1, sent.task(2, 5));
        PhaserYard seen = Script.yard("JOIN 2, ASYNC 1, GET 1, NEXT, HANDS 2", "JOIN 1, NEXT, NEXT, PUT 1",
            "NEXT, SAY, NEXT, SAY");
        seen.begin(0, 0, 1, 0);
        Check.refuses("the second next waits", UnsupportedOperationException.class, () -> seen.run(200));
        Script.says("it had seen one of two phases", seen, 0);
        Check.same("place of the second next", 2, seen.task(2, 2));
        Check.same("it has the mode", 2, seen.task(2, 5));
    }

    private static void asyncHandsNothing() {
        PhaserYard yard = Script.yard("JOIN 3, JOIN 7, ASYNC 7, HANDS 7, WHEN 28");
        yard.begin(0, 0, 1, 0);
        yard.run(6);
        int[] due = {0, 3, 0};
        for (int t = 1; t <= 3; t++) {
            Check.same("mode of task " + t + " on phaser 0", due[t - 1], yard.task(t, 5));
            Check.same("mode of task " + t + " on phaser 1", due[t - 1], yard.task(t, 6));
        }
    }
}
