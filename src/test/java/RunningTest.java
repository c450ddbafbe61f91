/** Promises 20 to 24: lamp, run, queue, count, flashes. */
public final class RunningTest {
    public static void main(String[] args) {
        lamp();
        run();
        queueOfAll();
        comingAndLeaving();
        creditEndsWithGreen();
        streetsMeet();
        streetIsFull();
        streetFreesRoom();
        longestStreet();
        clearing();
        clearingByTake();
        flashing();
        flashingInBetween();
        count();
        Due.end();
    }

    private static void lamp() {
        GreenDesk desk = new GreenDesk();
        Towns.addCrossing(desk, 0, 5);
        Towns.addQuiet(desk, 1);
        Due.due("20 begins", desk.lamp(0, 0, 5), 1);
        Due.due("20 ahead of it", desk.lamp(0, 0, 4), 0);
        Due.due("20 its last", desk.lamp(0, 0, 22), 1);
        Due.due("20 behind it", desk.lamp(0, 0, 23), 0);
        Due.due("20 ahead of the offset", desk.lamp(0, 1, 0), 1);
        Due.due("20 behind the last stage", desk.lamp(0, 1, 1), 0);
        Due.due("20 a cycle on", desk.lamp(0, 0, 45), 1);
        Due.due("20 the last second", desk.lamp(0, 1, 1_000_000), 1);
        Due.due("20 beyond it", desk.lamp(0, 1, 1_000_001), GreenDesk.NONE);
        Due.due("20 second -1", desk.lamp(0, 0, -1), GreenDesk.NONE);
        Due.due("20 stream 2", desk.lamp(0, 2, 0), GreenDesk.NONE);
        Due.due("20 stream -1", desk.lamp(0, -1, 0), GreenDesk.NONE);
        Due.due("20 junction 2", desk.lamp(2, 0, 0), GreenDesk.NONE);
        Due.due("20 without a plan", desk.lamp(1, 0, 0), 0);
        desk.plan(1, 20);
        desk.stage(1, 1, 20);
        Due.due("20 with a plan that is begun", desk.lamp(1, 0, 0), 0);
    }

    private static void run() {
        GreenDesk desk = new GreenDesk();
        Due.due("21 0", desk.run(0), 0);
        Due.due("21 -1", desk.run(-1), GreenDesk.NONE);
        Due.due("21 301", desk.run(301), GreenDesk.NONE);
        Due.due("21 the greatest int", desk.run(Integer.MAX_VALUE), GreenDesk.NONE);
        Due.due("21 300", desk.run(300), 300);
        Towns.runOn(desk, 99_600);
        Due.due("21 one too many", desk.run(101), GreenDesk.NONE);
        Due.due("21 nothing done", desk.count(1), 99_900);
        Due.due("21 to the end", desk.run(100), 100_000);
        Due.due("21 0 at the end", desk.run(0), 100_000);
        Due.due("21 1 at the end", desk.run(1), GreenDesk.NONE);
    }

    private static void queueOfAll() {
        GreenDesk desk = new GreenDesk();
        desk.junction();
        desk.stream(0, 3, 77, 9, 6);
        int[] wanted = {0, 0, 0, 0, 0, 0, -1, 3, 1200, 6, 77, 0, -1};
        for (int what = 0; what < wanted.length; what++) {
            Due.due("22 queue(0, 0, " + what + ")", desk.queue(0, 0, what), wanted[what]);
        }
        Due.due("22 what -1", desk.queue(0, 0, -1), GreenDesk.NONE);
        Due.due("22 stream 1", desk.queue(0, 1, 0), GreenDesk.NONE);
        Due.due("22 stream -1", desk.queue(0, -1, 11), GreenDesk.NONE);
        Due.due("22 junction 1", desk.queue(1, 0, 0), GreenDesk.NONE);
        Due.due("22 junction -1", desk.queue(-1, 0, 0), GreenDesk.NONE);
    }

    private static void comingAndLeaving() {
        GreenDesk desk = new GreenDesk();
        Towns.addCrossing(desk, 3600, 0);
        desk.run(4);
        dueQueue("22 green", desk, 0, 0, new long[] {2, 4, 2, 6, 3, 2, -1});
        Due.due("22 it is green", desk.queue(0, 0, 11), 1);
        dueQueue("22 not green", desk, 0, 1, new long[] {4, 4, 0, 10, 4, 4, -1});
        Due.due("22 it isn't", desk.queue(0, 1, 11), 0);

        GreenDesk slow = Towns.quiet(0);
        slow.stream(0, 0, 1000, 1800, 4);
        slow.run(3);
        Due.due("22 3,000 of 3,600", slow.queue(0, 0, 1), 0);
        slow.run(1);
        Due.due("22 4,000", slow.queue(0, 0, 1), 1);
        slow.run(3);
        Due.due("22 7,000", slow.queue(0, 0, 1), 1);
        slow.run(1);
        Due.due("22 8,000", slow.queue(0, 0, 1), 2);
        Due.due("22 no plan, a stop", slow.queue(0, 0, 4), 2);
        Due.due("22 no plan, none left", slow.queue(0, 0, 2), 0);
    }

    /** Of 17 green seconds the last gives half a departure, which is lost. */
    private static void creditEndsWithGreen() {
        GreenDesk desk = new GreenDesk();
        desk.junction();
        desk.stream(0, 0, 3600, 1800, 4);
        desk.stream(0, 0, 0, 1800, 4);
        desk.against(0, 0, 1, 3, 4);
        desk.plan(0, 40);
        desk.stage(0, 1, 17);
        desk.stage(0, 2, 16);
        desk.take(0, 0);
        desk.run(41);
        Due.due("22 left in 17 seconds and one", desk.queue(0, 0, 2), 8);
        desk.run(1);
        Due.due("22 and one more", desk.queue(0, 0, 2), 9);

        GreenDesk nearly = new GreenDesk();
        nearly.junction();
        nearly.stream(0, 0, 3600, 3599, 4);
        Towns.takeAlways(nearly, 0, 1);
        nearly.run(1);
        Due.due("22 not for 3,599", nearly.queue(0, 0, 2), 0);
        nearly.offset(0, 1);
        nearly.run(21);
        Due.due("22 nor again from 0 on", nearly.queue(0, 0, 2), 0);
        nearly.run(1);
        Due.due("22 but at the next", nearly.queue(0, 0, 2), 1);
    }

    /** Three that leave at second 59 come at 64, to one that is always green. */
    private static void streetsMeet() {
        GreenDesk desk = new GreenDesk();
        desk.junction();
        for (int i = 0; i < 3; i++) {
            desk.stream(0, 2, 60, 0, 8);
        }
        desk.junction();
        desk.stream(1, 0, 0, 1800, 4);
        for (int i = 0; i < 3; i++) {
            desk.street(0, i, 1, 0, 5, 60);
        }
        Towns.takeAlways(desk, 0, 7);
        Towns.takeAlways(desk, 1, 1);
        desk.run(59);
        Due.due("22 none came yet", desk.queue(0, 0, 1), 0);
        desk.run(1);
        dueQueue("22 on the street", desk, 0, 2, new long[] {0, 1, 1, 0, 0, 0, 1});
        desk.run(4);
        Due.due("22 still on it", desk.queue(0, 2, 6), 1);
        desk.run(1);
        Due.due("22 on it no more", desk.queue(0, 2, 6), 0);
        dueQueue("22 two of three stop", desk, 1, 0, new long[] {2, 3, 1, 2, 2, 2, -1});
        desk.run(1);
        Due.due("22 the credit held for one more", desk.queue(1, 0, 0), 1);
        desk.run(1);
        Due.due("22 but for no third", desk.queue(1, 0, 0), 1);
        desk.run(1);
        dueQueue("22 all left", desk, 1, 0, new long[] {0, 3, 3, 4, 2, 2, -1});
    }

    private static void streetIsFull() {
        GreenDesk desk = new GreenDesk();
        desk.junction();
        desk.stream(0, 0, 3600, 3600, 4);
        desk.junction();
        desk.stream(1, 0, 0, 3600, 4);
        desk.street(0, 0, 1, 0, 10, 3);
        Towns.takeAlways(desk, 0, 1);
        desk.run(3);
        dueQueue("22 three are on it", desk, 0, 0, new long[] {0, 3, 3, 0, 0, 0, 3});
        desk.run(7);
        dueQueue("22 it is full", desk, 0, 0, new long[] {7, 10, 3, 28, 6, 7, 3});
        desk.run(1);
        Due.due("22 one is at its end", desk.queue(0, 0, 6), 2);
        Due.due("22 and waits there", desk.queue(1, 0, 0), 1);
        desk.run(20);
        Due.due("22 none is on it", desk.queue(0, 0, 6), 0);
        Due.due("22 three wait", desk.queue(1, 0, 0), 3);
        Due.due("22 and none left more", desk.queue(0, 0, 2), 3);
        Due.due("22 three stops", desk.queue(1, 0, 4), 3);
    }

    /**
     * A street's end by a lower number is asked ahead of its beginning at one second, by a
     * higher number behind it.
     */
    private static void streetFreesRoom() {
        GreenDesk desk = new GreenDesk();
        for (int k = 0; k < 3; k++) {
            desk.junction();
            desk.stream(k, 0, k == 1 ? 0 : 3600, 3600, 4);
            Towns.takeAlways(desk, k, 1);
        }
        GreenDesk down = new GreenDesk();
        for (int k = 0; k < 2; k++) {
            down.junction();
            down.stream(k, 0, k == 1 ? 3600 : 0, 3600, 4);
        }
        desk.street(0, 0, 1, 0, 1, 1);
        down.street(1, 0, 0, 0, 1, 1);
        Towns.takeAlways(down, 0, 1);
        Towns.takeAlways(down, 1, 1);
        desk.run(4);
        down.run(4);
        Due.due("22 up: each second second", desk.queue(0, 0, 2), 2);
        Due.due("22 down: each second", down.queue(1, 0, 2), 4);
    }

    /** One leaves at each second of the first 60, there and back, and comes 60 seconds on. */
    private static void longestStreet() {
        GreenDesk desk = new GreenDesk();
        for (int k = 0; k < 2; k++) {
            desk.junction();
            desk.stream(k, 0, 3600, 3600, 4);
            desk.stream(k, 0, 0, 3600, 4);
            Towns.takeAlways(desk, k, 3);
        }
        desk.street(0, 0, 1, 1, 60, 60);
        desk.street(1, 0, 0, 1, 60, 60);
        desk.run(60);
        for (int k = 0; k < 2; k++) {
            Due.due("22 all are on the street", desk.queue(k, 0, 6), 60);
            Due.due("22 none came", desk.queue(k, 1, 1), 0);
        }
        desk.run(1);
        for (int k = 0; k < 2; k++) {
            Due.due("22 one came", desk.queue(k, 1, 1), 1);
            Due.due("22 and left", desk.queue(k, 1, 2), 1);
        }
        Due.due("22 up: it was full", desk.queue(0, 0, 6), 59);
        Due.due("22 down: it had room", desk.queue(1, 0, 6), 60);
        desk.run(59);
        Due.due("22 up: one more at the next", desk.queue(0, 0, 6), 59);
        Due.due("22 each came", desk.queue(1, 1, 1), 60);
    }

    private static void clearing() {
        GreenDesk desk = new GreenDesk();
        Towns.addCrossing(desk, 0, 0);
        desk.run(5);
        Due.due("15 while it runs", desk.offset(0, 20), true);
        Due.due("20 by the plan alone", desk.lamp(0, 0, 24), 1);
        desk.run(19);
        Due.due("22 clearing", desk.queue(0, 0, 11), 0);
        desk.run(1);
        Due.due("22 clearing at its last second", desk.queue(0, 0, 11), 0);
        desk.run(1);
        Due.due("22 clearing no more", desk.queue(0, 0, 11), 1);
        Due.due("15 it is that", desk.offset(0, 20), false);
        Due.due("15 outside", desk.offset(0, 40), false);
        desk.run(1);
        Due.due("22 no clearing by that", desk.queue(0, 0, 11), 1);
    }

    private static void clearingByTake() {
        GreenDesk desk = new GreenDesk();
        Towns.addCrossing(desk, 0, 0);
        desk.run(5);
        desk.plan(0, 40);
        Due.due("12 refused", desk.take(0, 0), 2);
        desk.run(1);
        Due.due("22 no clearing by that", desk.queue(0, 0, 11), 1);
        Towns.takeCrossing(desk, 0, 20);
        desk.run(20);
        Due.due("22 clearing", desk.queue(0, 0, 11), 0);
        desk.run(1);
        Due.due("22 clearing no more", desk.queue(0, 0, 11), 1);
    }

    private static void flashing() {
        GreenDesk desk = new GreenDesk();
        Towns.addCrossing(desk, 0, 0);
        Towns.addCrossing(desk, 0, 0);
        desk.tear(0, 1);
        Due.due("24 not yet asked", desk.flashes(0), false);
        desk.run(21);
        Due.due("24 in the first stage and behind it", desk.flashes(0), false);
        desk.run(1);
        Due.due("24 in the second", desk.flashes(0), true);
        Due.due("23 one", desk.count(2), 1);
        Due.due("24 the other one", desk.flashes(1), false);
        Due.due("22 no green at once", desk.queue(0, 1, 11), 0);
        Due.due("22 of the other one", desk.queue(1, 1, 11), 1);
        desk.run(20);
        Due.due("22 no green in the first stage then", desk.queue(0, 0, 11), 0);
        Due.due("24 from then on", desk.flashes(0), true);
        Due.due("20 lamps by the plan", desk.lamp(0, 0, 41), 1);
        desk.offset(0, 7);
        Due.due("24 behind offset() too", desk.flashes(0), true);
        Towns.takeCrossing(desk, 0, 0);
        Due.due("24 till a take()", desk.flashes(0), false);
        Due.due("23 none", desk.count(2), 0);
        Due.due("24 junction 2", desk.flashes(2), false);
        Due.due("24 junction -1", desk.flashes(-1), false);
    }

    private static void flashingInBetween() {
        GreenDesk desk = new GreenDesk();
        Towns.addCrossing(desk, 0, 0);
        desk.run(37);
        desk.tear(0, 1);
        desk.run(1);
        Due.due("24 in the between behind the second", desk.flashes(0), true);

        GreenDesk first = new GreenDesk();
        Towns.addCrossing(first, 0, 0);
        first.tear(0, 0);
        first.run(1);
        Due.due("24 in the first", first.flashes(0), true);

        GreenDesk all = new GreenDesk();
        Towns.addCrossing(all, 0, 0);
        all.tear(0, 2);
        all.run(80);
        Due.due("24 none is gone", all.flashes(0), false);
    }

    private static void count() {
        GreenDesk desk = Towns.quiet(1);
        Towns.addQuiet(desk, 1);
        desk.run(17);
        Due.due("23 junctions", desk.count(0), 2);
        Due.due("23 seconds", desk.count(1), 17);
        Due.due("23 that flash", desk.count(2), 0);
        Due.due("23 others", desk.count(3), GreenDesk.NONE);
        Due.due("23 others", desk.count(-1), GreenDesk.NONE);
    }

    private static void dueQueue(String what, GreenDesk desk, int junction, int i, long[] wanted) {
        for (int k = 0; k < wanted.length; k++) {
            Due.due(what + ", " + k, desk.queue(junction, i, k), wanted[k]);
        }
    }
}
