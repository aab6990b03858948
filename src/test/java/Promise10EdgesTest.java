/** Promise 10: the first and the last number of each row of questions, and the next ones, which are refused. */
public final class Promise10EdgesTest {
    private static final int[] LAST_REFUSED = {-1, 11, 19, 23, 29, 33, 39, 88, 99, 148};

    public static void main(String[] args) {
        refusesTheNextOfEachRow();
        answersNothingWithNothingBegun();
        answersNothingOfWorkersThatAreNotThere();
        answersWithOneTask();
        answersWithFullNumbers();
        answersWithAFullDequeOfWorkerOne();
        answersWithoutCodes();
        Check.end();
    }

    private static void refusesTheNextOfEachRow() {
        for (Refusal where : Refusal.everywhere()) {
            for (int what : LAST_REFUSED) {
                where.changesNothing("count(" + what + ")", IllegalArgumentException.class, yard -> yard.count(what));
            }
            where.changesNothing("count(MIN)", IllegalArgumentException.class, yard -> yard.count(Integer.MIN_VALUE));
            where.changesNothing("count(MAX)", IllegalArgumentException.class, yard -> yard.count(Integer.MAX_VALUE));
        }
    }

    private static void answersNothingWithNothingBegun() {
        PhaserYard yard = Script.yard("ADD 1");
        Check.refuses("begin of no body", IllegalArgumentException.class, () -> yard.begin(-1, 0, 3, 0));
        row(yard, "with nothing begun", 0, 10, 0);
        row(yard, "with nothing begun", 20, 22, -1);
        row(yard, "with nothing begun", 30, 32, 0);
        row(yard, "with nothing begun", 40, 87, -1);
        row(yard, "with nothing begun", 100, 147, -1);
    }

    private static void answersNothingOfWorkersThatAreNotThere() {
        PhaserYard yard = Script.begun(0, 3, 0, Script.repeated("ASYNC 1", 9) + ", GOTO 9",
            "ASYNC 2, GOTO 1", "GOTO 0");
        yard.run(15);
        Check.holds("worker 1 has one at hand", yard.count(21) >= 0);
        Check.holds("worker 2 has one at hand", yard.count(22) >= 0);
        yard.begin(0, 0, 1, 0);
        row(yard, "without workers 1 and 2", 21, 22, -1);
        row(yard, "without workers 1 and 2", 31, 32, 0);
        row(yard, "without worker 1", 100, 147, -1);
        yard.run(15);
        row(yard, "later without workers 1 and 2", 21, 22, -1);
        row(yard, "later without workers 1 and 2", 31, 32, 0);
        row(yard, "later without worker 1", 100, 147, -1);
    }

    private static void answersWithOneTask() {
        PhaserYard yard = Script.begun(0, 1, 0, "");
        Check.same("tasks", 1, yard.count(0));
        Check.same("not done", 1, yard.count(1));
        row(yard, "before a tick", 2, 10, 0);
        Check.same("at hand", -1, yard.count(20));
        Check.same("in the deque", 1, yard.count(30));
        Check.same("the first", 0, yard.count(40));
        row(yard, "behind the first", 41, 87, -1);
        yard.run(1);
        Check.same("at hand", 0, yard.count(20));
        Check.same("in the deque", 0, yard.count(30));
        row(yard, "in an empty deque", 40, 87, -1);
        yard.run(1);
        Check.same("at hand at the end", -1, yard.count(20));
        Check.same("tasks at the end", 1, yard.count(0));
        Check.same("not done at the end", 0, yard.count(1));
        Check.same("over", 1, yard.count(10));
    }

    private static void answersWithFullNumbers() {
        PhaserYard yard = Script.ran(142, 47, "ASYNC 1, ADD -1, IF 0, GOTO 3", "THROW 10");
        Check.same("tasks", 48, yard.count(0));
        Check.same("not done", 48, yard.count(1));
        Check.same("at hand", 0, yard.count(20));
        Check.same("in the deque", 47, yard.count(30));
        for (int k = 0; k < 47; k++) {
            Check.same("count(" + (40 + k) + ")", k + 1, yard.count(40 + k));
        }
        Check.same("no forty-eighth", -1, yard.count(87));
    }

    /** TASK 47 is stolen by WORKER 1 and makes all the others ready there. */
    private static void answersWithAFullDequeOfWorkerOne() {
        PhaserYard yard = Script.begun(46, 2, 0, "WHEN 8, ADD -1, IF 0, ASYNC 1, GET 0",
            "ADD 1, ADD 1, PUT 0, GOTO 3", "");
        yard.run(142);
        Check.same("at hand of worker 1", 47, yard.count(21));
        Check.same("deque of worker 1", 0, yard.count(31));
        yard.run(1);
        Check.same("at hand of worker 0", -1, yard.count(20));
        Check.same("deque of worker 1", 47, yard.count(31));
        for (int k = 0; k < 47; k++) {
            Check.same("count(" + (100 + k) + ")", k, yard.count(100 + k));
        }
        Check.same("no forty-eighth", -1, yard.count(147));
        yard.run(1);
        Check.same("worker 0 stole the first", 0, yard.count(20));
        Check.same("the first then", 1, yard.count(100));
        Check.same("the last then", 46, yard.count(145));
        Check.same("none behind it", -1, yard.count(146));
    }

    private static void answersWithoutCodes() {
        PhaserYard none = Script.ran(200, 0, "OPEN 8, THROW 10");
        Check.same("a handled code does not count", 0, none.count(6));
        Check.same("nor is it the least", 0, none.count(7));
        PhaserYard full = Script.ran(142, 47, "ASYNC 1, ADD -1, IF 0, THROW 99", "THROW 98");
        Script.runOn(full, 400);
        Check.same("forty-eight codes", 48, full.count(6));
        Check.same("the least of them", 98, full.count(7));
    }

    private static void row(PhaserYard yard, String when, int first, int last, int due) {
        for (int what = first; what <= last; what++) {
            Check.same("count(" + what + ") " + when, due, yard.count(what));
        }
    }
}
