/** Promise 10: the numbers of a RUN. */
public final class Promise10CountTest {
    public static void main(String[] args) {
        isEmptyWithNothingBegun();
        tellsOfTasksAndTicks();
        tellsOfCodesAndPhases();
        tellsOfHandsAndDeques();
        tellsWholeDeques();
        refusesOthers();
        Check.end();
    }

    private static void isEmptyWithNothingBegun() {
        PhaserYard yard = Script.yard("ADD 1");
        for (int what = 0; what <= 147; what++) {
            if (Script.isCount(what)) {
                boolean isTask = what >= 20 && what <= 22 || what >= 40;
                Check.same("count(" + what + ") with nothing begun", isTask ? -1 : 0, yard.count(what));
            }
        }
    }

    private static void tellsOfTasksAndTicks() {
        PhaserYard yard = Script.yard("ASYNC 1, SAY", "SAY");
        yard.begin(0, 0, 2, 0);
        yard.run(3);
        Check.same("tasks begun", 2, yard.count(0));
        Check.same("tasks not done", 2, yard.count(1));
        Check.same("ticks", 3, yard.count(2));
        Check.same("steps", 3, yard.count(3));
        Check.same("stolen", 1, yard.count(4));
        Check.same("numbers said", 2, yard.count(5));
        Check.same("not over", 0, yard.count(10));
        yard.run(1);
        Check.same("steps at the end", 5, yard.count(3));
        Check.same("tasks begun at the end", 2, yard.count(0));
        Check.same("tasks not done at the end", 0, yard.count(1));
        Check.same("over", 1, yard.count(10));
    }

    private static void tellsOfCodesAndPhases() {
        PhaserYard yard = Script.yard("ASYNC 1, ASYNC 2, ASYNC 1, JOIN 1, JOIN 5, NEXT, LEAVE 0, NEXT",
            "THROW 60", "THROW 30");
        yard.begin(0, 0, 1, 0);
        yard.run(9);
        Check.same("no code yet", 0, yard.count(6));
        Check.same("no least code yet", 0, yard.count(7));
        Check.same("phase 0", 1, yard.count(8));
        Check.same("phase 1", 2, yard.count(9));
        yard.run(3);
        Check.same("one code", 1, yard.count(6));
        Check.same("the least of one", 60, yard.count(7));
        yard.run(200);
        Check.same("all codes, the same one twice", 3, yard.count(6));
        Check.same("the least of all", 30, yard.count(7));
    }

    private static void tellsOfHandsAndDeques() {
        PhaserYard yard = Script.yard("ASYNC 1, ASYNC 1, ASYNC 1", "ADD 1");
        yard.begin(0, 0, 1, 0);
        yard.run(4);
        Check.same("at hand of worker 0", 0, yard.count(20));
        Check.same("worker 1 is not there", -1, yard.count(21));
        Check.same("worker 2 is not there", -1, yard.count(22));
        Check.same("deque of worker 0", 3, yard.count(30));
        Check.same("deque of no worker 1", 0, yard.count(31));
        Check.same("deque of no worker 2", 0, yard.count(32));
        Check.same("first of worker 0", 1, yard.count(40));
        Check.same("second of worker 0", 2, yard.count(41));
        Check.same("third of worker 0", 3, yard.count(42));
        Check.same("no fourth of worker 0", -1, yard.count(43));
        Check.same("first of no worker 1", -1, yard.count(100));
    }

    private static void tellsWholeDeques() {
        PhaserYard yard = Script.yard("ASYNC 1", "ASYNC 2, ASYNC 2, GET 0", "ADD 1, GOTO 0");
        yard.begin(0, 0, 2, 0);
        yard.run(4);
        Check.same("at hand of worker 1", 1, yard.count(21));
        Check.same("deque of worker 1 after worker 0 took the first", 1, yard.count(31));
        Check.same("first of worker 1", 3, yard.count(100));
        Check.same("no second of worker 1", -1, yard.count(101));
        Check.same("no last of worker 1", -1, yard.count(147));
        PhaserYard full = Script.yard("ASYNC 1, GOTO 0", "GET 0");
        full.begin(0, 0, 1, 0);
        full.run(96);
        Check.same("deque of 47", 47, full.count(30));
        Check.same("last of 47", 47, full.count(86));
        Check.same("none behind them", -1, full.count(87));
    }

    private static void refusesOthers() {
        PhaserYard yard = Script.yard("ADD 1");
        for (int round = 0; round < 2; round++) {
            for (int what = -3; what <= 300; what++) {
                int asked = what;
                if (!Script.isCount(what)) {
                    refuses(yard, asked);
                }
            }
            refuses(yard, Integer.MIN_VALUE);
            refuses(yard, Integer.MAX_VALUE);
            yard.begin(0, 0, 3, 0);
        }
    }

    private static void refuses(PhaserYard yard, int what) {
        Check.refuses("count(" + what + ")", IllegalArgumentException.class, () -> yard.count(what));
    }
}
