/** Promise 27: check. */
public final class GuardTest {
    public static void main(String[] args) {
        turned();
        window();
        refusals();
        yielding();
        withoutPlan();
        clearingIsLongEnough();
        Due.end();
    }

    private static GreenDesk crossing(int seconds) {
        GreenDesk desk = new GreenDesk();
        Towns.addCrossing(desk, 0, 0);
        Towns.runOn(desk, seconds);
        return desk;
    }

    private static void turned() {
        GreenDesk desk = crossing(100);
        Due.due("27 as it was", desk.check(0, 0, GreenDesk.NONE), GreenDesk.NONE);
        Due.due("27 i isn't asked", desk.check(0, 99, GreenDesk.NONE), GreenDesk.NONE);
        Due.due("27 the first second", desk.check(0, 1, 0), 0);
        Due.due("27 both", desk.check(0, 1, 5), 5);
        Due.due("27 2 behind 0", desk.check(0, 1, 19), 19);
        Due.due("27 3 behind 0", desk.check(0, 1, 20), 20);
        Due.due("27 3 ahead of 1", desk.check(0, 0, 18), 21);
        Due.due("27 1 ahead of 1", desk.check(0, 0, 20), 21);
        Due.due("27 3 behind 1", desk.check(0, 0, 38), 38);
        Due.due("27 4 behind 1", desk.check(0, 0, 39), 39);
        Due.due("27 1 4 ahead of 0", desk.check(0, 1, 36), 40);
        Due.due("27 off", desk.check(0, 0, 5), GreenDesk.NONE);
        Due.due("27 the last second", desk.check(0, 1, 99), 99);
        Due.due("27 nothing is changed", desk.check(0, 0, GreenDesk.NONE), GreenDesk.NONE);
    }

    private static void window() {
        Due.due("27 17 is read", crossing(217).check(0, 1, 18), 18);
        Due.due("27 17 isn't", crossing(218).check(0, 1, 18), GreenDesk.NONE);
        GreenDesk desk = crossing(300);
        Due.due("27 99 of 300", desk.check(0, 0, 99), -2);
        Due.due("27 100 of 300", desk.check(0, 0, 100), 101);
        Due.due("27 299 of 300", desk.check(0, 1, 299), 299);
        Due.due("27 300 of 300", desk.check(0, 0, 300), -2);
    }

    private static void refusals() {
        GreenDesk desk = crossing(10);
        Due.due("27 junction 1", desk.check(1, 0, GreenDesk.NONE), -2);
        Due.due("27 junction -1", desk.check(-1, 0, GreenDesk.NONE), -2);
        Due.due("27 stream 2", desk.check(0, 2, 5), -2);
        Due.due("27 stream -1", desk.check(0, -1, 5), -2);
        Due.due("27 second -2", desk.check(0, 0, -2), -2);
        Due.due("27 second 10", desk.check(0, 0, 10), -2);
        GreenDesk fresh = crossing(0);
        Due.due("27 no seconds", fresh.check(0, 0, GreenDesk.NONE), GreenDesk.NONE);
        Due.due("27 second 0", fresh.check(0, 0, 0), -2);
    }

    private static void yielding() {
        GreenDesk desk = new GreenDesk();
        desk.junction();
        desk.stream(0, 1, 0, 600, 4);
        desk.stream(0, 0, 0, 600, 4);
        desk.against(0, 0, 1, 5, 5);
        desk.yields(0, 0, 1);
        desk.plan(0, 20);
        desk.stage(0, 1, 10);
        desk.stage(0, 2, 10);
        desk.take(0, 0);
        desk.run(30);
        Due.due("27 yields", desk.check(0, 1, 5), GreenDesk.NONE);
    }

    private static void withoutPlan() {
        GreenDesk desk = Towns.quiet(2);
        desk.against(0, 0, 1, 5, 5);
        desk.run(30);
        Due.due("27 one alone", desk.check(0, 1, 5), GreenDesk.NONE);
        GreenDesk empty = Towns.quiet(0);
        empty.run(3);
        Due.due("27 no streams", empty.check(0, 0, GreenDesk.NONE), GreenDesk.NONE);
        Due.due("27 no such stream", empty.check(0, 0, 1), -2);
    }

    /** Gaps of 20 seconds hold whenever an offset is changed. */
    private static void clearingIsLongEnough() {
        GreenDesk desk = Towns.quiet(2);
        desk.against(0, 0, 1, 20, 20);
        desk.plan(0, 60);
        desk.stage(0, 1, 10);
        desk.stage(0, 2, 10);
        desk.take(0, 0);
        for (int k = 1; k < 60; k++) {
            desk.run(21 + k * 7 % 60);
            desk.offset(0, k * 23 % 60);
            Due.due("27 behind offset() " + k, desk.check(0, 0, GreenDesk.NONE), GreenDesk.NONE);
        }
    }
}
