/**
 * All promises: junctions and streams that aren't there. Each call answers as the document says
 * of none such, and nothing has changed by it.
 */
public final class NoneSuchTest {
    private static final int NONE = GreenDesk.NONE;
    // Beyond 31 a shift begins anew: 1 << 32 is 1.
    private static final int[] NO_JUNCTION = {-1, 3, 8, 32, Integer.MIN_VALUE, Integer.MAX_VALUE};
    private static final int[] NO_STREAM = {-1, 4, 8, 32, Integer.MIN_VALUE, Integer.MAX_VALUE};

    /** A call that names a number. */
    private interface Named {
        long on(GreenDesk desk, int number);
    }

    public static void main(String[] args) {
        townsAreAsTold();
        newObject();
        junctionsThatAreNot();
        streamsThatAreNot();
        fullTown();
        Due.end();
    }

    private static void townsAreAsTold() {
        Twins.is("still", Towns.STILL, desk -> desk.count(1), 0);
        Twins.is("no plan", Towns.STILL, desk -> desk.told(0, 0), NONE);
        Twins.is("one that is taken", Towns.STILL, desk -> desk.told(1, 0), 40);
        Twins.is("one that is begun", Towns.STILL, desk -> desk.green(2, 1), 24);
        Twins.is("under way", Towns.UNDER_WAY, desk -> desk.count(1), 85);
        Twins.is("was told why", Towns.UNDER_WAY, desk -> desk.why(1), 3);
        Twins.yes("flashes", Towns.UNDER_WAY, desk -> desk.flashes(1));
        Twins.is("is clearing", Towns.UNDER_WAY, desk -> desk.lamp(2, 0, 84) - desk.queue(2, 0, 11), 1);
    }

    /** "No junctions; SECOND 0." */
    private static void newObject() {
        Twins.Town empty = desk -> { };
        Twins.is("1 no junctions", empty, desk -> desk.count(0), 0);
        Twins.is("1 second 0", empty, desk -> desk.count(1), 0);
        Twins.is("1 none flashes", empty, desk -> desk.count(2), 0);
        Twins.is("1 the first junction is 0", empty, GreenDesk::junction, 0);
        Twins.is("1 it runs without junctions", empty, desk -> desk.run(1), 1);
        askForJunction("1", empty, 0);
    }

    private static void junctionsThatAreNot() {
        for (int k : NO_JUNCTION) {
            askForJunction("still", Towns.STILL, k);
            askForJunction("under way", Towns.UNDER_WAY, k);
        }
    }

    private static void streamsThatAreNot() {
        for (int i : NO_STREAM) {
            askForStream("still", Towns.STILL, i);
            askForStream("under way", Towns.UNDER_WAY, i);
        }
    }

    /** "up to 8", "each with up to 8": a ninth one isn't there where all others are. */
    private static void fullTown() {
        Twins.Town full = desk -> {
            for (int k = 0; k < 8; k++) {
                Towns.addQuiet(desk, 8);
                desk.against(k, 7, 0, 3, 3);
                Towns.begin(desk, k, 40, 127, 17, 254, 17);
                Due.due("12 taken", desk.take(k, k), 0);
            }
            desk.run(9);
        };
        askForJunction("full", full, 8);
        for (int k = 0; k < 8; k++) {
            int junction = k;
            Twins.is("20 the eighth", full, d -> d.lamp(junction, 7, 20 + junction), 1);
            Twins.none("20 a ninth", full, d -> d.lamp(junction, 8, 20 + junction));
            Twins.is("22 the eighth", full, d -> d.queue(junction, 7, 8), 1800);
            Twins.none("22 a ninth", full, d -> d.queue(junction, 8, 8));
            Twins.is("27 the eighth", full, d -> d.check(junction, 7, 8), 8);
            Twins.still("27 a ninth", full, d -> d.check(junction, 8, 8), -2);
        }
        Twins.is("25 the eighths", full, d -> d.width(5, 6, 7, 777, 777, 1, 1, 0), 17);
        Twins.is("25 with a ninth junction", full, d -> d.width(6, 7, 8, 777, 777, 1, 1, 0), NONE);
    }

    private static void ask(String call, Twins.Town town, int number, Named named, long want) {
        Twins.still(call + " of " + number, town, desk -> named.on(desk, number), want);
    }

    private static int bit(boolean answer) {
        return answer ? 1 : 0;
    }

    private static void askForJunction(String where, Twins.Town town, int junction) {
        ask(where + " 3 stream", town, junction, (d, k) -> d.stream(k, 0, 100, 900, 6), NONE);
        ask(where + " 4 against", town, junction, (d, k) -> bit(d.against(k, 0, 1, 3, 3)), 0);
        ask(where + " 5 yields", town, junction, (d, k) -> bit(d.yields(k, 2, 1)), 0);
        ask(where + " 6 street from", town, junction, (d, k) -> bit(d.street(k, 3, 2, 0, 5, 5)), 0);
        ask(where + " 6 street to", town, junction, (d, k) -> bit(d.street(0, 3, k, 0, 5, 5)), 0);
        ask(where + " 7 sets", town, junction, (d, k) -> d.sets(k), NONE);
        ask(where + " 8 set", town, junction, (d, k) -> d.set(k, 0), NONE);
        ask(where + " 9 goes", town, junction, (d, k) -> bit(d.goes(k, 0)), 0);
        ask(where + " 10 plan", town, junction, (d, k) -> bit(d.plan(k, 30)), 0);
        ask(where + " 11 stage", town, junction, (d, k) -> d.stage(k, 1, 5), NONE);
        ask(where + " 12 take", town, junction, (d, k) -> d.take(k, 0), 1);
        ask(where + " 14 told", town, junction, (d, k) -> d.told(k, 0), NONE);
        ask(where + " 15 offset", town, junction, (d, k) -> bit(d.offset(k, 1)), 0);
        ask(where + " 16 tear", town, junction, (d, k) -> bit(d.tear(k, 0)), 0);
        ask(where + " 17 share", town, junction, (d, k) -> d.share(k), NONE);
        ask(where + " 18 fit", town, junction, (d, k) -> bit(d.fit(k, 60)), 0);
        ask(where + " 19 green", town, junction, (d, k) -> d.green(k, 0), NONE);
        ask(where + " 20 lamp", town, junction, (d, k) -> d.lamp(k, 0, 0), NONE);
        ask(where + " 22 queue", town, junction, (d, k) -> d.queue(k, 0, 0), NONE);
        ask(where + " 24 flashes", town, junction, (d, k) -> bit(d.flashes(k)), 0);
        ask(where + " 25 width, a", town, junction, (d, k) -> d.width(k, 2, NONE, 0, 0, 5, 0, 0), NONE);
        ask(where + " 25 width, b", town, junction, (d, k) -> d.width(1, k, NONE, 0, 0, 5, 0, 0), NONE);
        ask(where + " 26 wave, a", town, junction, (d, k) -> d.wave(k, 2, NONE, 0, 0, 5, 0, 0), NONE);
        ask(where + " 26 wave, b", town, junction, (d, k) -> d.wave(1, k, NONE, 0, 0, 5, 0, 0), NONE);
        ask(where + " 27 check", town, junction, (d, k) -> d.check(k, 0, NONE), -2);
        ask(where + " 27 check of a second", town, junction, (d, k) -> d.check(k, 0, 0), -2);
    }

    private static void askForStream(String where, Twins.Town town, int stream) {
        ask(where + " 4 against, i", town, stream, (d, i) -> bit(d.against(0, i, 1, 3, 3)), 0);
        ask(where + " 4 against, j", town, stream, (d, i) -> bit(d.against(0, 1, i, 3, 3)), 0);
        ask(where + " 5 yields, i", town, stream, (d, i) -> bit(d.yields(0, i, 1)), 0);
        ask(where + " 5 yields, j", town, stream, (d, i) -> bit(d.yields(0, 2, i)), 0);
        ask(where + " 6 street from", town, stream, (d, i) -> bit(d.street(0, i, 2, 0, 5, 5)), 0);
        ask(where + " 6 street to", town, stream, (d, i) -> bit(d.street(0, 3, 2, i, 5, 5)), 0);
        ask(where + " 20 lamp", town, stream, (d, i) -> d.lamp(1, i, 0), NONE);
        for (int what = 0; what <= 11; what++) {
            int asked = what;
            ask(where + " 22 queue " + what, town, stream, (d, i) -> d.queue(1, i, asked), NONE);
        }
        ask(where + " 27 check", town, stream, (d, i) -> d.check(1, i, 84), -2);
    }
}
