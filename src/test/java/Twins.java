import java.util.Arrays;
import java.util.IdentityHashMap;
import java.util.Map;
import java.util.function.Supplier;

/**
 * Asks for the edges of a sentence, each on a desk that is made for it alone. A desk on which a
 * call is refused is held against its twin, on which the call was never made.
 */
final class Twins {
    /** What is laid on a new desk. */
    interface Town {
        void lay(GreenDesk desk);
    }

    /** A call that answers a number. */
    interface Call {
        long on(GreenDesk desk);
    }

    /** A call that answers yes or no. */
    interface Ask {
        boolean on(GreenDesk desk);
    }

    private static final Map<Town, long[][]> UNTOUCHED = new IdentityHashMap<>();

    private Twins() {
    }

    static GreenDesk desk(Town town) {
        GreenDesk desk = new GreenDesk();
        town.lay(desk);
        return desk;
    }

    /** A town on which more is laid, or a call made, whatever it answers. */
    static Town then(Town town, Town more) {
        return desk -> {
            town.lay(desk);
            more.lay(desk);
        };
    }

    static void is(String what, Town town, Call call, long want) {
        Due.due(what, call.on(desk(town)), want);
    }

    static void yes(String what, Town town, Ask ask) {
        Due.due(what, ask.on(desk(town)), true);
    }

    /** The answer is no, and nothing has changed by it. */
    static void no(String what, Town town, Ask ask) {
        still(what, town, desk -> ask.on(desk) ? 1 : 0, 0);
    }

    /** The answer is NONE, and nothing has changed by it. */
    static void none(String what, Town town, Call call) {
        still(what, town, call, GreenDesk.NONE);
    }

    /** The answer is as due, and nothing has changed by it. */
    static void still(String what, Town town, Call call, long want) {
        is(what, town, call, want);
        long[][] untouched = UNTOUCHED.computeIfAbsent(town, t -> Sight.of(() -> desk(t)));
        dueAlike(what, untouched, Sight.of(made(town, call)));
    }

    /** The answer is as due, and nothing but what why() tells has changed by it. */
    static void stillButWhy(String what, Town town, Call call, long want) {
        is(what, town, call, want);
        long[][] untouched = Sight.withoutWhy(() -> desk(town));
        dueAlike(what, untouched, Sight.withoutWhy(made(town, call)));
    }

    private static Supplier<GreenDesk> made(Town town, Call call) {
        return () -> desk(then(town, call::on));
    }

    private static void dueAlike(String what, long[][] untouched, long[][] touched) {
        Due.due(what + ": as many answers as its twin", touched.length, untouched.length);
        for (int k = 0; k < Math.min(untouched.length, touched.length); k++) {
            int unlike = Arrays.mismatch(untouched[k], touched[k]);
            Due.due(what + ": the first answer of part " + k + " that isn't its twin's", unlike, -1);
        }
    }
}
