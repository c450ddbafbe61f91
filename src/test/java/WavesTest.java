/** Promises 25 and 26: width, wave. */
public final class WavesTest {
    private static final int NONE = GreenDesk.NONE;

    public static void main(String[] args) {
        widthOfTwo();
        widthOfThree();
        refusals();
        waveOfTwo();
        waveBySum();
        waveOfThree();
        tornAndFlashing();
        Due.end();
    }

    /** Crossings by these offsets: stream 0 is green for 18 seconds from them on, 1 for 15 from 21. */
    private static GreenDesk crossings(int... offsets) {
        GreenDesk desk = new GreenDesk();
        for (int offset : offsets) {
            Towns.addCrossing(desk, 0, offset);
        }
        return desk;
    }

    private static void widthOfTwo() {
        GreenDesk desk = crossings(0, 10);
        Due.due("25 there, 5", desk.width(0, 1, NONE, 0, 11, 5, 0, 0), 13);
        Due.due("25 there, 10", desk.width(0, 1, NONE, 0, 11, 10, 0, 0), 18);
        Due.due("25 there, 30", desk.width(0, 1, NONE, 0, 11, 30, 0, 0), 0);
        Due.due("25 there, 90 as 10", desk.width(0, 1, NONE, 0, 11, 90, 0, 0), 18);
        Due.due("25 back, 10", desk.width(0, 1, NONE, 0, 11, 10, 0, 1), 0);
        Due.due("25 back, 30", desk.width(0, 1, NONE, 0, 11, 30, 0, 1), 15);
        Due.due("25 0 of a, 1 of b", desk.width(0, 1, NONE, 10, 0, 5, 0, 0), 1);
        Due.due("25 1 of a, 0 of b", desk.width(0, 1, NONE, 1, 0, 5, 0, 0), 2);
        Due.due("25 from b to a", desk.width(1, 0, NONE, 0, 11, 30, 0, 0), 18);
    }

    private static void widthOfThree() {
        GreenDesk desk = crossings(0, 10, 25);
        Due.due("25 all of it", desk.width(0, 1, 2, 0, 111, 10, 15, 0), 18);
        Due.due("25 less", desk.width(0, 1, 2, 0, 111, 8, 14, 0), 15);
        Due.due("25 back", desk.width(0, 1, 2, 0, 111, 30, 25, 1), 15);
        Due.due("25 back, less", desk.width(0, 1, 2, 0, 111, 30, 27, 1), 13);
        Due.due("25 back by others", desk.width(2, 1, 0, 111, 0, 15, 10, 1), 18);
        Due.due("25 third digit", desk.width(0, 1, 2, 100, 0, 10, 36, 0), 15);
    }

    private static void refusals() {
        GreenDesk desk = crossings(0, 10, 25);
        desk.junction();
        int other = Towns.addQuiet(desk, 1);
        desk.plan(other, 50);
        desk.stage(other, 1, 25);
        desk.stage(other, 1, 25);
        desk.take(other, 0);
        int[][] wrong = {
            {0, 0, NONE, 0, 0, 5, 0}, {0, 1, 1, 0, 0, 5, 5}, {0, 1, 0, 0, 0, 5, 5},
            {0, 1, NONE, 0, 0, 5, 1}, {0, 1, NONE, 100, 0, 5, 0}, {0, 1, NONE, 0, 100, 5, 0},
            {0, 1, 2, 1000, 0, 5, 5}, {0, 1, 2, 0, 1000, 5, 5}, {0, 1, 2, -1, 0, 5, 5},
            {0, 1, 2, 0, -1, 5, 5}, {0, 1, 2, 2, 0, 5, 5}, {0, 1, 2, 20, 0, 5, 5},
            {0, 1, 2, 200, 0, 5, 5}, {0, 1, 2, 0, 2, 5, 5}, {0, 1, 2, 0, 20, 5, 5},
            {0, 1, 2, 0, 200, 5, 5}, {0, 1, 2, 0, 0, -1, 5}, {0, 1, 2, 0, 0, 121, 5},
            {0, 1, 2, 0, 0, 5, -1}, {0, 1, 2, 0, 0, 5, 121}, {0, 1, 3, 0, 0, 5, 5},
            {0, 1, 4, 0, 0, 5, 5}, {0, 4, NONE, 0, 0, 5, 0}, {0, 1, -2, 0, 0, 5, 5},
            {-1, 1, NONE, 0, 0, 5, 0}, {5, 1, NONE, 0, 0, 5, 0}, {0, 5, NONE, 0, 0, 5, 0},
            {0, 1, 5, 0, 0, 5, 5}, {0, NONE, NONE, 0, 0, 5, 0},
        };
        for (int[] w : wrong) {
            String call = "(" + java.util.Arrays.toString(w) + ")";
            for (int what = 0; what < 3; what++) {
                Due.due("25 width" + call, width(desk, w, what), NONE);
                Due.due("26 wave" + call, wave(desk, w, what), NONE);
            }
        }
        int[] right = {0, 1, 2, 0, 111, 120, 120};
        Due.due("25 the longest times", width(desk, right, 0) != NONE, true);
        Due.due("25 what 2", width(desk, right, 2), NONE);
        Due.due("25 what -1", width(desk, right, -1), NONE);
        Due.due("26 what 2", wave(desk, right, 2) != NONE, true);
        Due.due("26 what 3", wave(desk, right, 3), NONE);
        Due.due("26 what -1", wave(desk, right, -1), NONE);
    }

    private static int width(GreenDesk desk, int[] w, int what) {
        return desk.width(w[0], w[1], w[2], w[3], w[4], w[5], w[6], what);
    }

    private static int wave(GreenDesk desk, int[] w, int what) {
        return desk.wave(w[0], w[1], w[2], w[3], w[4], w[5], w[6], what);
    }

    private static void waveOfTwo() {
        GreenDesk desk = crossings(0, 10);
        Due.due("26 the lesser", desk.wave(0, 1, NONE, 0, 11, 5, 0, 0), 11);
        Due.due("26 b's least offset", desk.wave(0, 1, NONE, 0, 11, 5, 0, 1), 38);
        Due.due("26 no c", desk.wave(0, 1, NONE, 0, 11, 5, 0, 2), NONE);
        Due.due("26 nothing is changed", desk.told(1, 1), 10);
        desk.offset(1, 38);
        Due.due("25 there by that", desk.width(0, 1, NONE, 0, 11, 5, 0, 0), 11);
        Due.due("25 back by that", desk.width(0, 1, NONE, 0, 11, 5, 0, 1), 12);
    }

    /** Of offsets 4, 25 and 26 each has a lesser one of 7, but 4 has the lesser sum. */
    private static void waveBySum() {
        GreenDesk desk = crossings(15, 0);
        Due.due("26 the lesser", desk.wave(0, 1, NONE, 1, 0, 0, 0, 0), 7);
        Due.due("26 by the sum", desk.wave(0, 1, NONE, 1, 0, 0, 0, 1), 25);
    }

    private static void waveOfThree() {
        GreenDesk desk = crossings(7, 0, 0);
        Due.due("26 no times", desk.wave(0, 1, 2, 0, 111, 0, 0, 0), 15);
        Due.due("26 b as a", desk.wave(0, 1, 2, 0, 111, 0, 0, 1), 7);
        Due.due("26 c as a", desk.wave(0, 1, 2, 0, 111, 0, 0, 2), 7);
        Due.due("26 half a cycle", desk.wave(0, 1, 2, 0, 111, 20, 40, 0), 15);
        Due.due("26 b over there", desk.wave(0, 1, 2, 0, 111, 20, 40, 1), 27);
        Due.due("26 c too", desk.wave(0, 1, 2, 0, 111, 20, 40, 2), 27);
    }

    private static void tornAndFlashing() {
        GreenDesk desk = crossings(0, 10);
        desk.tear(0, 0);
        desk.run(1);
        Due.due("25 by the plans alone", desk.width(0, 1, NONE, 0, 11, 10, 0, 0), 18);
    }
}
