/** Promise 8: the first and the last TASK and question, and the next ones, which are refused. */
public final class Promise08EdgesTest {
    private static final int MIN = Integer.MIN_VALUE;
    private static final int MAX = Integer.MAX_VALUE;

    public static void main(String[] args) {
        answersForEachTask();
        answersFromNoneToThreeScopes();
        answersEachMode();
        answersEachPlace();
        answersOfOneThatIsDone();
        refusesTheNextTask();
        refusesOtherQuestionsFirst();
        Check.end();
    }

    /** After the last TICK that makes a TASK there are count of them. */
    private static PhaserYard with(int count) {
        PhaserYard yard = Script.begun(count - 1, 1, 0, "IF 2, GOTO 15, ASYNC 1, ADD -1, IF 2, GOTO 5", "GET 0");
        Script.runOn(yard, 150);
        return yard;
    }

    private static void answersForEachTask() {
        for (int count : new int[] {1, 2, 47, 48}) {
            PhaserYard yard = with(count);
            Check.same("tasks", count, yard.count(0));
            for (int t = 1; t < count; t++) {
                Check.same("sum of task " + t, count - t, yard.task(t, 1));
                Check.same("body of task " + t, 1, yard.task(t, 3));
            }
        }
    }

    private static void answersFromNoneToThreeScopes() {
        PhaserYard yard = Script.begun(0, 1, 0, "OPEN 0, OPEN 0, OPEN 0");
        for (int open = 0; open <= 3; open++) {
            yard.run(1);
            Check.same("scopes open after " + open, open, yard.task(0, 4));
        }
    }

    private static void answersEachMode() {
        for (int mode = 1; mode <= 3; mode++) {
            PhaserYard first = Script.ran(2, 0, "JOIN " + mode);
            Check.same("mode on phaser 0", mode, first.task(0, 5));
            Check.same("no mode on phaser 1", 0, first.task(0, 6));
            PhaserYard second = Script.ran(2, 0, "JOIN " + (4 + mode));
            Check.same("no mode on phaser 0", 0, second.task(0, 5));
            Check.same("mode on phaser 1", mode, second.task(0, 6));
        }
    }

    private static void answersEachPlace() {
        PhaserYard yard = Script.begun(0, 1, 0, Script.repeated("ADD 1", 16));
        Check.same("place before a tick", 0, yard.task(0, 2));
        for (int place = 0; place <= 16; place++) {
            yard.run(1);
            Check.same("place after so many", place, yard.task(0, 2));
        }
        Check.same("the end is at place 16", 1, yard.run(1));
        Check.same("place at the end", 16, yard.task(0, 2));
    }

    private static void answersOfOneThatIsDone() {
        PhaserYard yard = Script.ran(200, MAX, "JOIN 3, JOIN 7, OPEN 0, ADD 1");
        int[] due = {Script.DONE, MIN, 4, 0, 0, 0, 0};
        for (int what = 0; what <= 6; what++) {
            Check.same("task(0, " + what + ") at the end", due[what], yard.task(0, what));
        }
    }

    private static void refusesTheNextTask() {
        for (int count : new int[] {1, 2, 47, 48}) {
            for (int t : new int[] {-1, count, count + 1, MIN, MAX}) {
                for (int what : new int[] {0, 6}) {
                    Refusal.in("with " + count + " tasks", () -> with(count)).changesNothing(
                        "task(" + t + ", " + what + ")", IndexOutOfBoundsException.class, yard -> yard.task(t, what));
                }
            }
        }
    }

    private static void refusesOtherQuestionsFirst() {
        for (Refusal where : Refusal.everywhere()) {
            for (int what : new int[] {-1, 7, MIN, MAX}) {
                for (int t : new int[] {-1, 0, 48}) {
                    where.changesNothing("task(" + t + ", " + what + ")", IllegalArgumentException.class,
                        yard -> yard.task(t, what));
                }
            }
        }
    }
}
