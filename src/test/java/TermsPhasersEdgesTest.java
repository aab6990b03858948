/** Terms, PHASERS: both of them, each MODE, none, one and all REGISTERED, and what is THROWN. */
public final class TermsPhasersEdgesTest {
    public static void main(String[] args) {
        for (int p = 0; p <= 1; p++) {
            modeZeroThrows(p);
            eachModeIsTakenOnce(p);
            leaveOfNoneThrows(p);
            phaseWithoutSignalStays(p);
            phaseWhenTheLastSignalLeaves(p);
            phaseRisesByMoreThanOne(p);
        }
        nextWithoutAnyPhaser();
        nextOfEachMode();
        refusedJoinKeepsSentAndSeen();
        phasersAreApart();
        allAreRegistered();
        handsOfNothing();
        endOfATaskLeavesBoth();
        Check.end();
    }

    private static int join(int p, int mode) {
        return 4 * p + mode;
    }

    private static void modeZeroThrows(int p) {
        PhaserYard yard = Script.ran(2, 0, "OPEN 8, JOIN " + join(p, 0) + ", NEXT, SAY");
        yard.run(1);
        Check.same("no mode by a join with mode 0", 0, yard.task(0, 5 + p));
        yard.run(200);
        Script.says("its code, and no wait behind it", yard, 3);
        Check.same("no phase by it", 0, yard.count(8 + p));
    }

    private static void eachModeIsTakenOnce(int p) {
        for (int mode = 1; mode <= 3; mode++) {
            for (int again = 0; again <= 3; again++) {
                PhaserYard yard = Script.ran(3, 0, "JOIN " + join(p, mode) + ", OPEN 12, JOIN " + join(p, again));
                Check.same("mode of the first join", mode, yard.task(0, 5 + p));
                yard.run(1);
                Check.same("mode after a second join", mode, yard.task(0, 5 + p));
                yard.run(1);
                Check.same("code of a second join", 3, yard.task(0, 1));
            }
        }
    }

    private static void leaveOfNoneThrows(int p) {
        Check.same("leave at first", 3, Script.codeOf("LEAVE " + p));
        Check.same("leave beside another", 3, Script.codeOf("JOIN " + join(1 - p, 3) + ", LEAVE " + p));
        for (int mode = 1; mode <= 3; mode++) {
            String once = "JOIN " + join(p, mode) + ", LEAVE " + p;
            Check.same("leave once", 0, Script.codeOf(once));
            Check.same("leave twice", 3, Script.codeOf(once + ", LEAVE " + p));
            Check.same("join again and leave", 0, Script.codeOf(once + ", " + once));
        }
        PhaserYard yard = Script.ran(4, 0, "JOIN " + join(1 - p, 3) + ", OPEN 12, LEAVE " + p);
        Check.same("a refused leave keeps the other", 3, yard.task(0, 6 - p));
    }

    private static void phaseWithoutSignalStays(int p) {
        PhaserYard yard = Script.begun(0, 1, 0, "JOIN " + join(p, 2) + ", NEXT");
        Check.refuses("one that waits alone", UnsupportedOperationException.class, () -> yard.run(200));
        Check.same("the phase without signal", 0, yard.count(8 + p));
    }

    private static void phaseWhenTheLastSignalLeaves(int p) {
        PhaserYard yard = Script.begun(0, 1, 0, "JOIN " + join(p, 2) + ", ASYNC 1, NEXT",
            "JOIN " + join(p, 1) + ", LEAVE " + p);
        Check.refuses("the last signal left without next", UnsupportedOperationException.class, () -> yard.run(200));
        Check.same("the phase stays", 0, yard.count(8 + p));
        PhaserYard risen = Script.ran(200, 0, "JOIN " + join(p, 1) + ", NEXT, NEXT, LEAVE " + p);
        Check.same("a phase that has risen stays", 2, risen.count(8 + p));
    }

    private static void phaseRisesByMoreThanOne(int p) {
        PhaserYard yard = Script.ran(7, 0, "JOIN " + join(p, 1) + ", HANDS 1, NEXT, NEXT, NEXT, GOTO 6, GET 0",
            "LEAVE " + p);
        Check.same("held by one that sent nothing", 0, yard.count(8 + p));
        yard.run(3);
        Check.same("from 0 to 3 when it left", 3, yard.count(8 + p));
    }

    private static void nextWithoutAnyPhaser() {
        PhaserYard yard = Script.ran(200, 5, "NEXT, NEXT, SAY");
        Check.same("over", 1, yard.count(10));
        Check.same("each is one step", 4, yard.count(3));
        Check.same("phase 0", 0, yard.count(8));
        Check.same("phase 1", 0, yard.count(9));
    }

    private static void nextOfEachMode() {
        int[] phase = {1, 0, 1};
        int[] state = {Script.AT_HAND, Script.WAITS, Script.AT_HAND};
        for (int mode = 1; mode <= 3; mode++) {
            PhaserYard yard = Script.ran(3, 5, "JOIN " + mode + ", NEXT, GOTO 2");
            Check.same("phase by mode " + mode, phase[mode - 1], yard.count(8));
            Script.isState("mode " + mode + " alone", yard, 0, state[mode - 1]);
        }
    }

    /** A JOIN that were taken would set SENT to the PHASE, 0, and the LEAVE of the other would raise it to 1. */
    private static void refusedJoinKeepsSentAndSeen() {
        PhaserYard yard = Script.ran(200, 0,
            "JOIN 1, HANDS 1, OPEN 20, NEXT, JOIN 1, NEXT, GET 0", "ADD 1, ADD 1, LEAVE 0");
        Check.same("sent before and behind the refused join", 2, yard.count(8));
    }

    private static void phasersAreApart() {
        PhaserYard yard = Script.ran(200, 0, "JOIN 1, NEXT, JOIN 5, NEXT, LEAVE 0, NEXT, NEXT");
        Check.same("phase 0", 2, yard.count(8));
        Check.same("phase 1", 3, yard.count(9));
    }

    private static void allAreRegistered() {
        PhaserYard yard = Script.begun(47, 1, 0, "JOIN 3, HANDS 1, ADD -1, IF 1, NEXT, SAY", "NEXT");
        Script.runOn(yard, 1 + 1 + 47 * 3 + 1);
        for (int t = 0; t < 48; t++) {
            Check.same("mode of task " + t, 3, yard.task(t, 5));
        }
        Script.runOn(yard, 46 * 2 + 1);
        Check.same("the phase with one missing", 0, yard.count(8));
        Check.same("the others wait", 0, yard.count(30));
        yard.run(1);
        Check.same("the phase with all 48", 1, yard.count(8));
        Check.same("the others are ready", 47, yard.count(30));
        Check.same("the first of them", 0, yard.count(40));
        for (int k = 1; k < 47; k++) {
            Check.same("count(" + (40 + k) + ")", k + 1, yard.count(40 + k));
        }
        Script.runOn(yard, 400);
        Check.same("over", 1, yard.count(10));
        Check.same("the phase at the end", 1, yard.count(8));
    }

    private static void handsOfNothing() {
        PhaserYard yard = Script.ran(2, 0, "HANDS 1");
        Check.same("mode on phaser 0", 0, yard.task(1, 5));
        Check.same("mode on phaser 1", 0, yard.task(1, 6));
        PhaserYard one = Script.ran(3, 0, "JOIN 6, HANDS 1");
        Check.same("mode where it was registered", 2, one.task(1, 6));
        Check.same("mode where it was not", 0, one.task(1, 5));
    }

    private static void endOfATaskLeavesBoth() {
        PhaserYard yard = Script.ran(200, 0, "JOIN 3, JOIN 7, HANDS 1, NEXT, SAY", "");
        Check.same("over", 1, yard.count(10));
        Check.same("phase 0", 1, yard.count(8));
        Check.same("phase 1", 1, yard.count(9));
    }
}
