/** Promises 7 to 9: sets, set, goes. */
public final class SetsTest {
    public static void main(String[] args) {
        none();
        path();
        everyPair();
        yielding();
        goes();
        Due.end();
    }

    private static void none() {
        GreenDesk desk = Towns.quiet(0);
        Due.due("7 without streams", desk.sets(0), 0);
        Due.due("8 without streams", desk.set(0, 0), GreenDesk.NONE);
        Due.due("7 junction 1", desk.sets(1), GreenDesk.NONE);
        Due.due("7 junction -1", desk.sets(-1), GreenDesk.NONE);
        Due.due("8 junction 1", desk.set(1, 0), GreenDesk.NONE);
    }

    /** 0 - 1 - 2 - 3 are against the next one each. */
    private static void path() {
        GreenDesk desk = Towns.quiet(4);
        desk.against(0, 0, 1, 2, 2);
        desk.against(0, 1, 2, 2, 2);
        desk.against(0, 2, 3, 2, 2);
        Due.due("7 path", desk.sets(0), 3);
        Due.due("8 path 0", desk.set(0, 0), 5);
        Due.due("8 path 1", desk.set(0, 1), 9);
        Due.due("8 path 2", desk.set(0, 2), 10);
        Due.due("8 path 3", desk.set(0, 3), GreenDesk.NONE);
        Due.due("8 path -1", desk.set(0, -1), GreenDesk.NONE);
    }

    private static void everyPair() {
        GreenDesk desk = Towns.quiet(8);
        Due.due("7 all together", desk.sets(0), 1);
        Due.due("8 all together", desk.set(0, 0), 255);
        for (int i = 0; i < 8; i += 2) {
            desk.against(0, i, i + 1, 1, 1);
        }
        Due.due("7 four pairs", desk.sets(0), 16);
        Due.due("8 the first of them", desk.set(0, 0), 1 + 4 + 16 + 64);
        Due.due("8 the last of them", desk.set(0, 15), 2 + 8 + 32 + 128);
        for (int i = 0; i < 8; i++) {
            for (int j = 0; j < i; j++) {
                desk.against(0, i, j, 1, 1);
            }
        }
        Due.due("7 each alone", desk.sets(0), 8);
        Due.due("8 the last alone", desk.set(0, 7), 128);
    }

    private static void yielding() {
        GreenDesk desk = new GreenDesk();
        desk.junction();
        desk.stream(0, 1, 0, 600, 4);
        desk.stream(0, 0, 0, 600, 4);
        desk.against(0, 0, 1, 2, 2);
        Due.due("7 against", desk.sets(0), 2);
        desk.yields(0, 0, 1);
        Due.due("7 yields", desk.sets(0), 1);
        Due.due("8 yields", desk.set(0, 0), 3);
    }

    private static void goes() {
        GreenDesk desk = Towns.quiet(3);
        desk.against(0, 0, 2, 2, 2);
        Due.due("9 empty", desk.goes(0, 0), true);
        Due.due("9 not the greatest", desk.goes(0, 2), true);
        Due.due("9 two", desk.goes(0, 3), true);
        Due.due("9 against", desk.goes(0, 5), false);
        Due.due("9 against, with one more", desk.goes(0, 7), false);
        Due.due("9 no such stream", desk.goes(0, 8), false);
        Due.due("9 one such, one not", desk.goes(0, 9), false);
        Due.due("9 below 0", desk.goes(0, -1), false);
        Due.due("9 the least int", desk.goes(0, Integer.MIN_VALUE), false);
        Due.due("9 junction 1", desk.goes(1, 0), false);
        Due.due("9 without streams", Towns.quiet(0).goes(0, 0), true);
        GreenDesk full = Towns.quiet(8);
        Due.due("9 all eight", full.goes(0, 255), true);
        Due.due("9 a ninth", full.goes(0, 256), false);
    }
}
