/** Promise 1: empty BODIES; nothing was begun. */
public final class Promise01NewObjectTest {
    public static void main(String[] args) {
        bodiesAreEmpty();
        nothingWasBegun();
        objectsAreApart();
        Check.end();
    }

    private static void bodiesAreEmpty() {
        PhaserYard yard = new PhaserYard();
        for (int b = 0; b < 8; b++) {
            Check.same("body(" + b + ") of a new object", 0, yard.body(b));
        }
    }

    private static void nothingWasBegun() {
        PhaserYard yard = new PhaserYard();
        Check.refuses("run(1) of a new object", IllegalStateException.class, () -> yard.run(1));
        Check.refuses("run(0) of a new object", IllegalStateException.class, () -> yard.run(0));
        Check.refuses("result() of a new object", IllegalStateException.class, () -> yard.result());
        Check.refuses("said(0) of a new object", IndexOutOfBoundsException.class, () -> yard.said(0));
        Check.refuses("task(0, 0) of a new object", IndexOutOfBoundsException.class, () -> yard.task(0, 0));
        Check.refuses("future(0) of a new object", IllegalStateException.class, () -> yard.future(0));
        Check.same("tasks of a new object", 0, yard.count(0));
        Check.same("a new object is not over", 0, yard.count(10));
    }

    private static void objectsAreApart() {
        PhaserYard first = Script.yard("ADD 1, PUT 0, SAY");
        first.begin(0, 0, 1, 0);
        first.run(200);
        PhaserYard second = new PhaserYard();
        Check.same("body(0) beside a used object", 0, second.body(0));
        Check.same("count(0) beside a used object", 0, second.count(0));
        Check.same("the used object keeps its body", 3, first.body(0));
    }
}
