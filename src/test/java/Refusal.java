import java.util.ArrayList;
import java.util.List;
import java.util.function.Consumer;
import java.util.function.Supplier;

/** Has calls refused by one of two objects made alike, and sees that the two stay alike. */
final class Refusal {
    private final String where;
    private final Supplier<PhaserYard> maker;

    private Refusal(String where, Supplier<PhaserYard> maker) {
        this.where = where;
        this.maker = maker;
    }

    static Refusal in(String where, Supplier<PhaserYard> maker) {
        return new Refusal(where, maker);
    }

    /** In all that a RUN can be: not begun, before a TICK, in its middle, OVER, OVER with a code, and STUCK. */
    static List<Refusal> everywhere() {
        List<Refusal> all = new ArrayList<>();
        all.add(in("with nothing begun", () -> example()));
        all.add(in("before a tick", () -> begun(0)));
        all.add(in("in the middle", () -> ran(0, 12)));
        all.add(in("over", () -> ran(0, 200)));
        all.add(in("over with a code", () -> ran(5, 200)));
        all.add(in("stuck", () -> ran(6, 200)));
        return all;
    }

    Refusal changesNothing(String call, Class<? extends RuntimeException> due, Consumer<PhaserYard> refused) {
        PhaserYard asked = maker.get();
        PhaserYard left = maker.get();
        Check.refuses(call + " " + where, due, () -> refused.accept(asked));
        isAlike(call + " " + where, State.of(left), State.of(asked));
        isAlike("what follows " + call + " " + where, State.later(left), State.later(asked));
        return this;
    }

    private static void isAlike(String what, String due, String got) {
        Check.holds(what + " changed\n" + due + "\nto\n" + got, due.equals(got));
    }

    private static PhaserYard example() {
        return Script.yard("JOIN 3, OPEN 36, HANDS 1, WHEN 8, PUT 0, NEXT, SAY, CLOSE, GIVE", "ADD 2, NEXT, SAY, GIVE",
            "TIMES 5, GIVE, SAY", "GOTO 0", "", "ASYNC 2, THROW 77", "JOIN 2, PUT 1, SAY, NEXT",
            Script.repeated("ADD 1", 15) + ", SAY");
    }

    /** The names in everywhere() tell the truth. */
    static void checkExamples() {
        Check.same("the run in the middle", 0, ran(0, 12).count(10));
        Check.same("the run that is over", 1, ran(0, 200).count(10));
        Check.same("its codes", 0, ran(0, 200).count(6));
        Check.same("the run that is over with a code", 1, ran(5, 200).count(10));
        Check.same("its least code", 77, ran(5, 200).count(7));
        Check.refuses("the run that is stuck", UnsupportedOperationException.class, () -> ran(6, 200).run(0));
    }

    private static PhaserYard begun(int b) {
        PhaserYard yard = example();
        yard.begin(b, 4, 2, 1);
        return yard;
    }

    private static PhaserYard ran(int b, int ticks) {
        PhaserYard yard = begun(b);
        State.run(yard, ticks);
        return yard;
    }
}
