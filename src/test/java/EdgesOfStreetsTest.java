/**
 * The edges of streets, of flashing and of clearing in Terms 2 and 3. Each function asks for the
 * sentence that stands above it.
 */
public final class EdgesOfStreetsTest {
    public static void main(String[] args) {
        timeOnTheStreet();
        roomOnTheStreet();
        roomAtItsEnd();
        roomByNumbers();
        withoutStreet();
        flashesAtTheStage();
        flashesInBetween();
        flashesFromThenOn();
        flashesWhileClearing();
        noGreenAtAll();
        clearingSeconds();
        clearingBehindSeconds();
        clearingOnlyIfDone();
        clearingAnew();
        Due.end();
    }

    /** A street from one junction to another, both to which one comes at each second or none. */
    private static Twins.Town street(int from, int time, int room, int countAtEnd) {
        return desk -> {
            for (int k = 0; k < 2; k++) {
                desk.junction();
                desk.stream(k, 0, k == from ? 3600 : countAtEnd, 3600, 4);
            }
            desk.street(from, 0, 1 - from, 0, time, room);
            Towns.takeAlways(desk, from, 1);
        };
    }

    private static long behind(Twins.Town town, int seconds, Twins.Call call) {
        GreenDesk desk = Twins.desk(town);
        Towns.runOn(desk, seconds);
        return call.on(desk);
    }

    /** "What leaves at SECOND t comes at SECOND t + TIME." */
    private static void timeOnTheStreet() {
        for (int time : new int[] {1, 2, 30, 59, 60}) {
            for (int from = 0; from < 2; from++) {
                int end = 1 - from;
                Twins.Town town = street(from, time, 60, 0);
                String what = "22 from " + from + " in " + time;
                Due.due(what, behind(town, time, d -> d.queue(end, 0, 1)), 0);
                Due.due(what + ", the first", behind(town, time + 1, d -> d.queue(end, 0, 1)), 1);
                Due.due(what + ", the second", behind(town, time + 2, d -> d.queue(end, 0, 1)), 2);
            }
        }
    }

    /** "It's full if what is on it .. ROOM or more." */
    private static void roomOnTheStreet() {
        for (int room : new int[] {1, 2, 59}) {
            Twins.Town town = street(0, 60, room, 0);
            Due.due("22 not yet full, " + room, behind(town, room, d -> d.queue(0, 0, 6)), room);
            Due.due("22 full, " + room, behind(town, room + 1, d -> d.queue(0, 0, 6)), room);
            Due.due("22 the next one waits", behind(town, room + 1, d -> d.queue(0, 0, 0)), 1);
        }
        Twins.Town most = street(0, 60, 60, 0);
        Due.due("22 sixty", behind(most, 60, d -> d.queue(0, 0, 6)), 60);
        Due.due("22 none waits", behind(most, 60, d -> d.queue(0, 0, 0)), 0);
        Due.due("22 no more than sixty", behind(most, 61, d -> d.queue(0, 0, 2)), 60);
    }

    /** "what is on it and what waits at its end are ROOM or more": wherever these came from. */
    private static void roomAtItsEnd() {
        for (int room : new int[] {1, 2, 60}) {
            Twins.Town town = street(0, 1, room, 0);
            Due.due("22 all wait at its end", behind(town, 100, d -> d.queue(1, 0, 0)), room);
            Due.due("22 none is on it", behind(town, 100, d -> d.queue(0, 0, 6)), 0);
            Due.due("22 no more left", behind(town, 100, d -> d.queue(0, 0, 2)), room);
        }
        // At second 2 two are on it and two others wait at its end.
        Due.due("22 4 of 4", behind(street(0, 60, 4, 3600), 50, d -> d.queue(0, 0, 2)), 2);
        Due.due("22 4 of 5", behind(street(0, 60, 5, 3600), 50, d -> d.queue(0, 0, 2)), 3);
    }

    /** "of each junction by numbers": an end of a lower number has had its second already. */
    private static void roomByNumbers() {
        Due.due("22 up, 2 of 3", behind(street(0, 60, 3, 3600), 50, d -> d.queue(0, 0, 2)), 2);
        Due.due("22 down, 3 of 3", behind(street(1, 60, 3, 3600), 50, d -> d.queue(1, 0, 2)), 1);
        Due.due("22 up, room for one", behind(street(0, 60, 1, 3600), 50, d -> d.queue(0, 0, 2)), 1);
        Due.due("22 down, room for one", behind(street(1, 60, 1, 3600), 50, d -> d.queue(1, 0, 2)), 0);
    }

    /** "Without one what leaves is away." */
    private static void withoutStreet() {
        Twins.Town town = desk -> {
            for (int k = 0; k < 2; k++) {
                desk.junction();
                desk.stream(k, 0, k == 0 ? 3600 : 0, 3600, 4);
            }
            Towns.takeAlways(desk, 0, 1);
        };
        Due.due("22 all left", behind(town, 200, d -> d.queue(0, 0, 2)), 200);
        Due.due("22 none waits", behind(town, 200, d -> d.queue(0, 0, 0)), 0);
        Due.due("22 no street", behind(town, 200, d -> d.queue(0, 0, 6)), GreenDesk.NONE);
        Due.due("22 none came elsewhere", behind(town, 200, d -> d.queue(1, 0, 1)), 0);
    }

    /** Stages of 6 seconds of 0, 1, 0, 1, with betweens of 3 and 4; from OFFSET 2 on. */
    private static Twins.Town stages(int n) {
        return desk -> {
            Towns.addQuiet(desk, 2);
            desk.against(0, 0, 1, 3, 4);
            Towns.begin(desk, 0, n == 2 ? 20 : 38, 1, 6, 2, n == 2 ? 7 : 6);
            for (int s = 2; s < n; s++) {
                desk.stage(0, 1 + s % 2, 6);
            }
            Due.due("12 taken", desk.take(0, 2), 0);
        };
    }

    private static boolean flashesBehind(Twins.Town town, int seconds) {
        return behind(town, seconds, d -> d.flashes(0) ? 1 : 0) == 1;
    }

    /** "it FLASHES from then on, if its row of GREENS is torn ahead of the STAGE". */
    private static void flashesAtTheStage() {
        // The last between is there at seconds 0 and 1, then the stages begin at these seconds.
        int[] begins = {2, 2 + 9, 2 + 19, 2 + 28};
        for (int n = 0; n < 4; n++) {
            int first = n;
            Twins.Town torn = Twins.then(Twins.then(stages(4), d -> d.run(2)), d -> d.tear(0, first));
            Due.due("24 torn behind " + n, flashesBehind(torn, 0), false);
            Due.due("24 ahead of stage " + n, flashesBehind(torn, begins[n] - 2), false);
            Due.due("24 at stage " + n, flashesBehind(torn, begins[n] - 1), true);
        }
        Twins.Town whole = Twins.then(stages(4), d -> d.tear(0, 4));
        Due.due("24 torn behind all", flashesBehind(whole, 300), false);
        Due.due("24 never torn", flashesBehind(stages(4), 300), false);
    }

    /** "(also in the BETWEEN behind it)". */
    private static void flashesInBetween() {
        for (int n = 0; n <= 4; n++) {
            int first = n;
            // Second 0 is in the between behind the last stage.
            Twins.Town last = Twins.then(stages(4), d -> d.tear(0, first));
            Due.due("24 behind the last, " + n, flashesBehind(last, 1), n < 4);
            // Second 8 is the first in the between behind stage 0, 10 its last.
            for (int second = 8; second <= 10; second++) {
                int runs = second;
                Twins.Town between = Twins.then(Twins.then(stages(4), d -> d.run(runs)), d -> d.tear(0, first));
                Due.due("24 behind stage 0, " + n, flashesBehind(between, 1), n < 1);
            }
            // Second 17 is the first in the between behind stage 1, 20 its last.
            for (int second = 17; second <= 20; second++) {
                int runs = second;
                Twins.Town between = Twins.then(Twins.then(stages(4), d -> d.run(runs)), d -> d.tear(0, first));
                Due.due("24 behind stage 1, " + n, flashesBehind(between, 1), n < 2);
            }
        }
    }

    /** "it FLASHES from then on": at that very second, and in stages that aren't torn. */
    private static void flashesFromThenOn() {
        Twins.Town torn = Twins.then(stages(2), d -> d.tear(0, 1));
        Twins.Town begun = Twins.then(Towns.ofCrossing(0, 0), d -> d.tear(0, 1));
        Due.due("24 the between ahead of 0 is the last's", flashesBehind(torn, 1), true);
        Due.due("24 not in stage 0", flashesBehind(begun, 21), false);
        Due.due("22 green there", behind(begun, 18, d -> d.queue(0, 0, 11)), 1);
        Due.due("24 in stage 1", flashesBehind(begun, 22), true);
        Due.due("22 dark at that second", behind(begun, 22, d -> d.queue(0, 1, 11)), 0);
        for (int seconds = 41; seconds < 58; seconds++) {
            Due.due("24 in stage 0 then", flashesBehind(begun, seconds), true);
            Due.due("22 dark in stage 0 then", behind(begun, seconds, d -> d.queue(0, 0, 11)), 0);
        }
    }

    /** "its lamps are asked" at each SECOND, also at those of CLEARING. */
    private static void flashesWhileClearing() {
        Twins.Town clearing = Twins.then(Twins.then(Towns.ofCrossing(0, 0), d -> d.run(1)), desk -> {
            desk.offset(0, 1);
            desk.tear(0, 0);
        });
        Due.due("24 not yet asked", flashesBehind(clearing, 0), false);
        Due.due("24 at the first of them", flashesBehind(clearing, 1), true);
        Twins.Town flashing = Twins.then(Twins.then(clearing, d -> d.run(1)), d -> d.offset(0, 7));
        Due.due("24 offset() doesn't end it", flashesBehind(flashing, 30), true);
        Due.due("22 nor does clearing", behind(flashing, 30, d -> d.queue(0, 0, 11)), 0);
    }

    /** Two streams that are always green, to which one comes at each second. */
    private static void layBusy(GreenDesk desk) {
        desk.junction();
        desk.stream(0, 0, 3600, 3600, 4);
        desk.stream(0, 2, 3600, 3600, 4);
        Towns.takeAlways(desk, 0, 3);
    }

    /** "A junction without a PLAN, that FLASHES, or is CLEARING, has no green at all." */
    private static void noGreenAtAll() {
        Twins.Town busy = EdgesOfStreetsTest::layBusy;
        Twins.Town begun = desk -> {
            desk.junction();
            desk.stream(0, 0, 3600, 3600, 4);
            desk.stream(0, 2, 3600, 3600, 4);
            Towns.begin(desk, 0, 20, 3, 10, 3, 10);
        };
        Twins.Town flashing = Twins.then(busy, d -> d.tear(0, 0));
        Twins.Town clearing = Twins.then(Twins.then(busy, d -> d.run(1)), d -> d.offset(0, 1));
        for (int i = 0; i < 2; i++) {
            int stream = i;
            Due.due("22 green", behind(busy, 19, d -> d.queue(0, stream, 11)), 1);
            Due.due("22 all left", behind(busy, 19, d -> d.queue(0, stream, 2)), 19);
            for (Twins.Town dark : new Twins.Town[] {begun, flashing, clearing}) {
                Due.due("22 dark", behind(dark, 19, d -> d.queue(0, stream, 11)), 0);
                Due.due("22 all wait", behind(dark, 19, d -> d.queue(0, stream, 0)), 19);
                Due.due("22 all stop", behind(dark, 19, d -> d.queue(0, stream, 4)), 19);
            }
        }
    }

    private static void dueClearing(String what, Twins.Town town, boolean clears) {
        for (int seconds = 1; seconds <= 25; seconds++) {
            boolean green = !clears || seconds > 20;
            Due.due(what + ", second " + seconds, behind(town, seconds, d -> d.queue(0, 0, 11)), green ? 1 : 0);
        }
    }

    private static Twins.Town busyBehind(int seconds) {
        return Twins.then(EdgesOfStreetsTest::layBusy, d -> Towns.runOn(d, seconds));
    }

    private static void takeAgain(GreenDesk desk) {
        Towns.takeAlways(desk, 0, 1);
    }

    /** "It's CLEARING for 20 SECONDS from a take(), offset() on". */
    private static void clearingSeconds() {
        dueClearing("22 behind offset()", Twins.then(busyBehind(33), d -> d.offset(0, 1)), true);
        dueClearing("22 behind take()", Twins.then(busyBehind(33), EdgesOfStreetsTest::takeAgain), true);
        Twins.Town first = Twins.then(Towns.ofQuiet(1), d -> d.run(33));
        dueClearing("22 behind the first take()", Twins.then(first, EdgesOfStreetsTest::takeAgain), true);
        dueClearing("22 behind tear()", Twins.then(busyBehind(33), d -> d.tear(0, 2)), false);
        dueClearing("22 behind plan()", Twins.then(busyBehind(33), d -> d.plan(0, 30)), false);
    }

    /** "when SECONDS were run already". */
    private static void clearingBehindSeconds() {
        dueClearing("22 offset() at second 0", Twins.then(busyBehind(0), d -> d.offset(0, 1)), false);
        dueClearing("22 take() at second 0", Twins.then(busyBehind(0), EdgesOfStreetsTest::takeAgain), false);
        dueClearing("22 offset() at second 1", Twins.then(busyBehind(1), d -> d.offset(0, 1)), true);
        dueClearing("22 take() at second 1", Twins.then(busyBehind(1), EdgesOfStreetsTest::takeAgain), true);
    }

    /** "that did something": a refused call clears nothing. */
    private static void clearingOnlyIfDone() {
        Twins.Town run = busyBehind(33);
        dueClearing("22 it is that", Twins.then(run, d -> d.offset(0, 0)), false);
        dueClearing("22 outside", Twins.then(run, d -> d.offset(0, 20)), false);
        dueClearing("22 none is begun", Twins.then(run, d -> d.take(0, 0)), false);
        int[][] stages = {{}, {1, 0, 1, 9}, {1, 9, 1, 9}, {1, 3, 2, 17}};
        for (int[] each : stages) {
            Twins.Town begun = Twins.then(run, d -> Towns.begin(d, 0, 20, each));
            dueClearing("22 refused", Twins.then(begun, d -> d.take(0, 0)), false);
        }
        Twins.Town other = Twins.then(EdgesOfStreetsTest::layBusy, desk -> {
            Towns.addCrossing(desk, 0, 0);
            desk.run(33);
            desk.offset(1, 9);
        });
        dueClearing("22 another junction's", other, false);
    }

    /** "for 20 SECONDS from .. on": of several from the latest on. */
    private static void clearingAnew() {
        Twins.Town again = Twins.then(busyBehind(33), desk -> {
            desk.offset(0, 1);
            desk.run(19);
            desk.offset(0, 2);
        });
        dueClearing("22 behind a second offset()", again, true);
        Twins.Town late = Twins.then(busyBehind(33), desk -> {
            desk.offset(0, 1);
            desk.run(20);
        });
        dueClearing("22 behind 20 seconds", late, false);
    }
}
