/**
 * The edges of Terms 3, of what is dark in Terms 2, and of promises 20 to 24: lamp, run, queue,
 * count, flashes. Each function asks for the sentence that stands above it.
 */
public final class EdgesOfRunningTest {
    private static final int NONE = GreenDesk.NONE;
    private static final int LEAST_INT = Integer.MIN_VALUE;
    private static final int MOST_INT = Integer.MAX_VALUE;

    private static final Twins.Town CROSSING = Towns.ofCrossing(300, 5);

    public static void main(String[] args) {
        lampSeconds();
        lampWithoutPlan();
        lampAsIfNothingWereTorn();
        runSeconds();
        runUpToTheMost();
        queueNumbers();
        queueOfTheLatestSecond();
        countNumbers();
        coming();
        stops();
        leaving();
        creditFromNought();
        creditAtMost();
        waiting();
        Due.end();
    }

    /** One stream, always green where it is said. */
    private static Twins.Town lone(int count, int rate, boolean green) {
        return desk -> {
            desk.junction();
            desk.stream(0, 0, count, rate, 4);
            if (green) {
                Towns.takeAlways(desk, 0, 1);
            }
        };
    }

    private static long queueBehind(Twins.Town town, int seconds, int what) {
        GreenDesk desk = Twins.desk(town);
        Towns.runOn(desk, seconds);
        return desk.queue(0, 0, what);
    }

    /** "at a SECOND (0 to 1,000,000) .. NONE: no such." */
    private static void lampSeconds() {
        // 1,000,000 is a beginning of 40 seconds: 5 ahead of the plan's own.
        Twins.still("20 at 0", CROSSING, d -> d.lamp(0, 1, 0), 1);
        Twins.still("20 at the last", CROSSING, d -> d.lamp(0, 1, 1_000_000), 1);
        Twins.still("20 at the last, the other one", CROSSING, d -> d.lamp(0, 0, 1_000_000), 0);
        Twins.still("20 35 ahead of it", CROSSING, d -> d.lamp(0, 0, 999_965), 1);
        for (int second : new int[] {-1, 1_000_001, LEAST_INT, MOST_INT}) {
            Twins.none("20 at " + second, CROSSING, d -> d.lamp(0, 0, second));
            Twins.none("20 without a plan, at " + second, Towns.STILL, d -> d.lamp(0, 0, second));
        }
    }

    /** "(0 without a PLAN.)" */
    private static void lampWithoutPlan() {
        Twins.Town begun = Twins.then(Towns.ofQuiet(1), d -> Towns.begin(d, 0, 20, 1, 10, 1, 10));
        for (int second : new int[] {0, 1, 1_000_000}) {
            Twins.still("20 no plan, at " + second, Towns.ofQuiet(1), d -> d.lamp(0, 0, second), 0);
            Twins.still("20 one begun, at " + second, begun, d -> d.lamp(0, 0, second), 0);
        }
    }

    /** "by its PLAN, as if nothing were torn". */
    private static void lampAsIfNothingWereTorn() {
        Twins.Town torn = Twins.then(CROSSING, d -> d.tear(0, 0));
        Twins.Town flashing = Twins.then(torn, d -> d.run(10));
        Twins.Town clearing = Twins.then(flashing, d -> d.offset(0, 6));
        Twins.yes("20 it flashes", clearing, d -> d.flashes(0));
        Twins.is("20 torn", torn, d -> d.lamp(0, 0, 5), 1);
        Twins.is("20 flashing", flashing, d -> d.lamp(0, 0, 9), 1);
        Twins.is("20 flashing, later", flashing, d -> d.lamp(0, 0, 45), 1);
        Twins.is("20 clearing", clearing, d -> d.lamp(0, 0, 10), 1);
        Twins.is("20 not green all the same", clearing, d -> d.lamp(0, 0, 5), 0);
    }

    /** "n SECONDS (0 to 300) are run: SECOND then. NONE, doing nothing: another n". */
    private static void runSeconds() {
        for (int n : new int[] {0, 1, 299, 300}) {
            Twins.is("21 on a new desk " + n, desk -> { }, d -> d.run(n), n);
            Twins.is("21 still " + n, Towns.STILL, d -> d.run(n), n);
            Twins.is("21 under way " + n, Towns.UNDER_WAY, d -> d.run(n), 85 + n);
        }
        for (int n : new int[] {-1, 301, LEAST_INT, MOST_INT}) {
            Twins.none("21 still " + n, Towns.STILL, d -> d.run(n));
            Twins.none("21 under way " + n, Towns.UNDER_WAY, d -> d.run(n));
        }
        Twins.still("21 0 does nothing", Towns.STILL, d -> d.run(0), 0);
        Twins.still("21 0 does nothing under way", Towns.UNDER_WAY, d -> d.run(0), 85);
    }

    /** "or more than 100,000 would be done". */
    private static void runUpToTheMost() {
        Twins.Town near = Twins.then(Towns.ofCrossing(300, 0), d -> Towns.runOn(d, 99_701));
        Twins.is("21 299 more", near, d -> d.run(299), 100_000);
        Twins.none("21 300 more", near, d -> d.run(300));
        Twins.Town end = Twins.then(near, d -> d.run(299));
        Twins.still("21 0 at the end", end, d -> d.run(0), 100_000);
        Twins.none("21 1 at the end", end, d -> d.run(1));
        Twins.none("21 300 at the end", end, d -> d.run(300));
        Twins.is("23 seconds run", end, d -> d.count(1), 100_000);
        Twins.is("27 the last second is read", end, d -> d.check(0, 0, 99_999), 99_999);
        Twins.is("27 no second more", end, d -> d.check(0, 0, 100_000), -2);
    }

    /** "0 what waits .. 11 whether it was green"; "6 .. (NONE without one)"; "NONE where .. none such". */
    private static void queueNumbers() {
        for (int what : new int[] {-1, 12, 13, LEAST_INT, MOST_INT}) {
            Twins.none("22 queue " + what, Towns.STILL, d -> d.queue(1, 0, what));
            Twins.none("22 under way, queue " + what, Towns.UNDER_WAY, d -> d.queue(1, 0, what));
        }
        long[] still = {0, 0, 0, 0, 0, 0, 0, 1, 1700, 5, 200, 0};
        for (int what = 0; what < still.length; what++) {
            int asked = what;
            long want = what == 6 ? NONE : still[what];
            Twins.still("22 queue " + what, Towns.STILL, d -> d.queue(1, 2, asked), want);
        }
        Twins.still("22 a street with none on it", Towns.STILL, d -> d.queue(1, 0, 6), 0);
        Twins.still("22 without a street", Towns.UNDER_WAY, d -> d.queue(1, 2, 6), NONE);
    }

    /** "11 whether it was green at the latest SECOND (0 ahead of one)". */
    private static void queueOfTheLatestSecond() {
        Twins.Town green = lone(0, 1800, true);
        Twins.still("22 ahead of one", green, d -> d.queue(0, 0, 11), 0);
        Twins.still("22 behind run(0)", Twins.then(green, d -> d.run(0)), d -> d.queue(0, 0, 11), 0);
        Twins.Town one = Twins.then(green, d -> d.run(1));
        Twins.still("22 behind one", one, d -> d.queue(0, 0, 11), 1);
        Twins.Town turned = Twins.then(one, d -> d.offset(0, 9));
        Twins.still("22 it was, ahead of clearing", turned, d -> d.queue(0, 0, 11), 1);
        Twins.still("22 behind one more", Twins.then(turned, d -> d.run(1)), d -> d.queue(0, 0, 11), 0);
        Twins.still("22 the other one", Twins.then(CROSSING, d -> d.run(6)), d -> d.queue(0, 1, 11), 0);
    }

    /** "How many 0 junctions, 1 SECONDS run, 2 that FLASH. NONE for others." */
    private static void countNumbers() {
        int[] want = {3, 85, 1};
        for (int what = 0; what < want.length; what++) {
            int asked = what;
            Twins.still("23 count " + what, Towns.UNDER_WAY, d -> d.count(asked), want[what]);
        }
        for (int what : new int[] {-1, 3, LEAST_INT, MOST_INT}) {
            Twins.none("23 count " + what, Towns.UNDER_WAY, d -> d.count(what));
            Twins.none("23 on a new desk, count " + what, desk -> { }, d -> d.count(what));
        }
        Twins.Town all = desk -> {
            for (int k = 0; k < 8; k++) {
                Towns.addCrossing(desk, 0, 0);
                desk.tear(k, 0);
            }
        };
        Twins.is("23 none is asked yet", all, d -> d.count(2), 0);
        Twins.is("23 all eight flash", Twins.then(all, d -> d.run(1)), d -> d.count(2), 8);
    }

    /** "its ACCOUNT has COUNT more; if that is 3,600 or more, it has 3,600 less, and one comes". */
    private static void coming() {
        Due.due("22 0: none in an hour", queueBehind(lone(0, 1800, true), 3600, 1), 0);
        Due.due("22 1: none in 3,599 seconds", queueBehind(lone(1, 1800, true), 3599, 1), 0);
        Due.due("22 1: one in 3,600", queueBehind(lone(1, 1800, true), 3600, 1), 1);
        Due.due("22 1: one in 7,199", queueBehind(lone(1, 1800, true), 7199, 1), 1);
        Due.due("22 1: two in 7,200", queueBehind(lone(1, 1800, true), 7200, 1), 2);
        Due.due("22 1,800: none in 1", queueBehind(lone(1800, 1800, false), 1, 1), 0);
        Due.due("22 1,800: one in 2", queueBehind(lone(1800, 1800, false), 2, 1), 1);
        Due.due("22 3,599: none in 1", queueBehind(lone(3599, 1800, false), 1, 1), 0);
        Due.due("22 3,599: one in 2", queueBehind(lone(3599, 1800, false), 2, 1), 1);
        Due.due("22 3,599: 3,599 in an hour", queueBehind(lone(3599, 1800, false), 3600, 1), 3599);
        Due.due("22 3,600: one in 1", queueBehind(lone(3600, 1800, false), 1, 1), 1);
        Due.due("22 3,600: 3,600 in an hour", queueBehind(lone(3600, 1800, false), 3600, 1), 3600);
    }

    /** "Each that comes while it is not green, or others wait, is a STOP." */
    private static void stops() {
        Due.due("22 green, none waits", queueBehind(lone(3600, 3600, true), 50, 4), 0);
        Due.due("22 not green", queueBehind(lone(3600, 3600, false), 50, 4), 50);
        Due.due("22 green, the first", queueBehind(lone(3600, 1800, true), 1, 4), 0);
        Due.due("22 green, one waits", queueBehind(lone(3600, 1800, true), 2, 4), 1);
        Due.due("22 green, it waits on", queueBehind(lone(3600, 1800, true), 50, 4), 49);
        // One in two seconds comes, and leaves at once: the credit is there again.
        Due.due("22 green, each meets none", queueBehind(lone(1800, 1800, true), 50, 4), 0);
    }

    /** "if it is 3,600 or more and one waits, .. one leaves, and the CREDIT has 3,600 less". */
    private static void leaving() {
        Due.due("22 600: none in 5", queueBehind(lone(3600, 600, true), 5, 2), 0);
        Due.due("22 600: one in 6", queueBehind(lone(3600, 600, true), 6, 2), 1);
        Due.due("22 600: one in 11", queueBehind(lone(3600, 600, true), 11, 2), 1);
        Due.due("22 600: two in 12", queueBehind(lone(3600, 600, true), 12, 2), 2);
        Due.due("22 3,599: none in 1", queueBehind(lone(3600, 3599, true), 1, 2), 0);
        Due.due("22 3,599: one in 2", queueBehind(lone(3600, 3599, true), 2, 2), 1);
        Due.due("22 3,599: 3,599 in an hour", queueBehind(lone(3600, 3599, true), 3600, 2), 3599);
        Due.due("22 3,600: one in 1", queueBehind(lone(3600, 3600, true), 1, 2), 1);
        Due.due("22 3,600: 100 in 100", queueBehind(lone(3600, 3600, true), 100, 2), 100);
        Due.due("22 none waits, none leaves", queueBehind(lone(0, 3600, true), 100, 2), 0);
        Due.due("22 not green, none leaves", queueBehind(lone(3600, 3600, false), 100, 2), 0);
    }

    /** Two streams in 20 seconds: one comes to stream 0 at each, and none to stream 1. */
    private static Twins.Town byTurns(int rate, int... stages) {
        return desk -> {
            desk.junction();
            desk.stream(0, 0, 3600, rate, 5);
            desk.stream(0, 0, 0, 600, 4);
            Towns.begin(desk, 0, 20, stages);
            Due.due("12 taken", desk.take(0, 0), 0);
        };
    }

    /** "if it's green, its CREDIT has RATE more, else it is 0". */
    private static void creditFromNought() {
        Twins.Town five = byTurns(600, 1, 5, 2, 15);
        Due.due("22 3,000 and none leaves", queueBehind(five, 20, 2), 0);
        Due.due("22 it begins at 0 again", queueBehind(five, 300, 2), 0);
        Twins.Town six = byTurns(600, 1, 6, 2, 14);
        Due.due("22 3,600 and one leaves", queueBehind(six, 20, 2), 1);
        Due.due("22 one each time", queueBehind(six, 300, 2), 15);
        Twins.Town late = byTurns(3599, 2, 10, 1, 10);
        Due.due("22 3,599 at its first second", queueBehind(late, 11, 2), 0);
        Due.due("22 one at its second", queueBehind(late, 12, 2), 1);
        Due.due("22 nine in ten seconds", queueBehind(late, 20, 2), 9);
        Due.due("22 3,599 at its first second again", queueBehind(late, 31, 2), 9);
    }

    /** Three come at one second to a bus's stop that has long been green. */
    private static void layPlatoon(GreenDesk desk) {
        desk.junction();
        desk.stream(0, 3, 0, 0, 4);
        desk.junction();
        for (int i = 0; i < 3; i++) {
            desk.stream(1, 2, 60, 0, 8);
            desk.street(1, i, 0, 0, 5, 60);
        }
        Towns.takeAlways(desk, 0, 1);
        Towns.takeAlways(desk, 1, 7);
    }

    /** "it's at most 3,600 behind that": so 1,200 of 4,800 stay when the first one leaves. */
    private static void creditAtMost() {
        int[] left = {0, 1, 1, 2, 2, 2, 3};
        for (int k = 0; k < left.length; k++) {
            Due.due("22 left behind " + (64 + k), queueBehind(EdgesOfRunningTest::layPlatoon, 64 + k, 2), left[k]);
        }
        Due.due("22 the second and third stop", queueBehind(EdgesOfRunningTest::layPlatoon, 65, 4), 2);
    }

    /** "WAIT: it grows by what waits then"; "5 the most that waited behind a SECOND". */
    private static void waiting() {
        Due.due("22 each leaves at once, wait", queueBehind(lone(3600, 3600, true), 50, 3), 0);
        Due.due("22 each leaves at once, most", queueBehind(lone(3600, 3600, true), 50, 5), 0);
        Due.due("22 none leaves, wait", queueBehind(lone(3600, 3600, false), 50, 3), 50 * 51 / 2);
        Due.due("22 none leaves, most", queueBehind(lone(3600, 3600, false), 50, 5), 50);
        Due.due("22 the wait of all seconds", queueBehind(lone(3600, 3600, false), 90_000, 3),
                90_000L * 90_001L / 2L);
        Twins.Town platoon = Twins.then(EdgesOfRunningTest::layPlatoon, d -> d.run(80));
        Twins.is("22 all left, the most stays", platoon, d -> d.queue(0, 0, 5), 2);
        Twins.is("22 2, 2, 1, 1 and 1", platoon, d -> d.queue(0, 0, 3), 7);
    }
}
