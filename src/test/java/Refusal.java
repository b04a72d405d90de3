import java.util.ArrayList;
import java.util.List;
import java.util.function.Supplier;
import java.util.function.ToLongFunction;

/** Tries a call on one of two squares that are alike, and looks whether it leaves them alike. */
final class Refusal {
    /** A call of which one argument is left open. */
    interface Open {
        long with(StarlingSquare s, int v);
    }

    private final Supplier<StarlingSquare> scene;

    Refusal(Supplier<StarlingSquare> scene) {
        this.scene = scene;
    }

    /** The call throws exactly that exception, and all that can be asked stays as it was. */
    void refused(String what, Class<? extends RuntimeException> want, ToLongFunction<StarlingSquare> call) {
        StarlingSquare tried = scene.get();
        Class<?> got = Check.thrownBy(() -> call.applyAsLong(tried));
        Check.due(what + " threw " + got + ", due is " + want + "; right", 1, got == want ? 1 : 0);
        alike(what, tried);
    }

    /** The call throws nothing, and all that can be asked stays as it was. */
    void unchanged(String what, ToLongFunction<StarlingSquare> call) {
        StarlingSquare tried = scene.get();
        Class<?> got = Check.thrownBy(() -> call.applyAsLong(tried));
        Check.due(what + " threw " + got + "; right", 1, got == null ? 1 : 0);
        alike(what, tried);
    }

    private void alike(String what, StarlingSquare tried) {
        List<Long> due = look(scene.get());
        List<Long> seen = look(tried);
        Check.due(what + " changed nothing", 1, due.equals(seen) ? 1 : 0);
    }

    void index(String what, ToLongFunction<StarlingSquare> call) {
        refused(what, IndexOutOfBoundsException.class, call);
    }

    void argument(String what, ToLongFunction<StarlingSquare> call) {
        refused(what, IllegalArgumentException.class, call);
    }

    void state(String what, ToLongFunction<StarlingSquare> call) {
        refused(what, IllegalStateException.class, call);
    }

    /** The last values that are allowed, on both sides, and the first ones that are not. */
    void range(String what, int least, int most, Class<? extends RuntimeException> want, Open call) {
        accepted(what + " " + least, s -> call.with(s, least));
        accepted(what + " " + most, s -> call.with(s, most));
        int[] wrong = {least - 1, most + 1, Integer.MIN_VALUE, Integer.MAX_VALUE};
        for (int v : wrong) {
            refused(what + " " + v, want, s -> call.with(s, v));
        }
    }

    void accepted(String what, ToLongFunction<StarlingSquare> call) {
        StarlingSquare tried = scene.get();
        Class<?> got = Check.thrownBy(() -> call.applyAsLong(tried));
        Check.due(what + " is allowed, but threw " + got + "; right", 1, got == null ? 1 : 0);
    }

    /** All that one can see of a square; it is changed by that, as DRAW, JAM and MARKS are not seen otherwise. */
    private static List<Long> look(StarlingSquare s) {
        List<Long> seen = new ArrayList<>();
        lookAhead(s, seen);
        for (int t = 0; t < 4; t++) {
            seen.add((long) s.tick(1));
            seen.add(s.digest());
        }
        seen.add((long) s.set(0, 1));
        seen.add(s.digest());
        for (int goal = 0; goal < 4; goal++) {
            int g = goal;
            seen.add(answer(() -> s.mark(g, 1, 1)));
            seen.add(answer(() -> s.mark(g, 1, 1)));
        }
        seen.add((long) s.wall(1, 1, 1, 1, false));
        seen.add((long) s.tick(20));
        seen.add(answer(() -> s.walker(0, 1, 0, 1, 1)));
        seen.add(s.digest());
        return seen;
    }

    private static void lookAhead(StarlingSquare s, List<Long> seen) {
        seen.add(s.digest());
        seen.add((long) s.jamIn(60));
        seen.add((long) s.outWith(60, 5));
        seen.add(answer(() -> s.outBy(1, 1, 60)));
        seen.add(Double.doubleToLongBits(s.meanSteps()));
        for (int i = 0; i < s.many(0); i++) {
            seen.add((long) s.outIn(i, 60));
        }
    }

    private static long answer(Check.Call call) {
        try {
            return call.answer();
        } catch (IllegalStateException e) {
            return -99;
        }
    }
}
