/** The edges of promises 25 and 26: width, wave. Each function asks for the sentence above it. */
public final class EdgesOfWavesTest {
    private static final int NONE = GreenDesk.NONE;
    private static final int LEAST_INT = Integer.MIN_VALUE;
    private static final int MOST_INT = Integer.MAX_VALUE;

    /** Crossings 0 to 2 of 40 seconds, 3 without a plan, 4 with one begun, 5 and 6 of 41 and 39. */
    private static final Twins.Town TOWN = EdgesOfWavesTest::layTown;
    /** Three junctions of eight streams that are always green. */
    private static final Twins.Town OPEN = EdgesOfWavesTest::layOpen;

    public static void main(String[] args) {
        unlikeJunctions();
        withoutThird();
        takenPlans();
        oneCycle();
        digits();
        times();
        whats();
        secondsOfTheCycle();
        roundTheCycle();
        backWithTheSameTimes();
        waveOffsets();
        waveOfTheFirstOffset();
        waveOfLeastOffsets();
        waveBySum();
        waveWithoutThird();
        waveChangesNothing();
        waveAnew();
        asIfNothingWereTorn();
        Due.end();
    }

    private static void layTown(GreenDesk desk) {
        Towns.addCrossing(desk, 0, 0);
        Towns.addCrossing(desk, 0, 10);
        Towns.addCrossing(desk, 0, 25);
        Towns.addQuiet(desk, 2);
        Towns.addQuiet(desk, 2);
        Towns.begin(desk, 4, 40, 1, 20, 2, 20);
        for (int cycle = 41; cycle >= 39; cycle -= 2) {
            int k = Towns.addQuiet(desk, 2);
            Towns.begin(desk, k, cycle, 1, 20, 2, cycle - 20);
            Due.due("12 taken", desk.take(k, 0), 0);
        }
    }

    private static void layOpen(GreenDesk desk) {
        for (int k = 0; k < 3; k++) {
            Towns.addQuiet(desk, 8);
            Towns.takeAlways(desk, k, 255);
        }
    }

    private static int width(GreenDesk desk, int[] way, int what) {
        return desk.width(way[0], way[1], way[2], way[3], way[4], way[5], way[6], what);
    }

    private static int wave(GreenDesk desk, int[] way, int what) {
        return desk.wave(way[0], way[1], way[2], way[3], way[4], way[5], way[6], what);
    }

    /** Every what of both is NONE. */
    private static void refused(String what, Twins.Town town, int... way) {
        for (int k = 0; k < 3; k++) {
            int asked = k;
            Twins.none("25 " + what + ", " + k, town, d -> width(d, way, asked));
            Twins.none("26 " + what + ", " + k, town, d -> wave(d, way, asked));
        }
    }

    /** Every what of both is a number. */
    private static void told(String what, Twins.Town town, int... way) {
        GreenDesk desk = Twins.desk(town);
        for (int k = 0; k < 3; k++) {
            Due.due("25 " + what + ", " + k, width(desk, way, k) >= 0, k < 2);
            Due.due("26 " + what + ", " + k, wave(desk, way, k) >= 0, k < 2 || way[2] != NONE);
        }
    }

    /** "A way of 2 or 3 unlike junctions". */
    private static void unlikeJunctions() {
        told("unlike", TOWN, 0, 1, 2, 0, 0, 5, 5);
        told("unlike, falling", TOWN, 2, 1, 0, 0, 0, 5, 5);
        refused("a is b", TOWN, 1, 1, 2, 0, 0, 5, 5);
        refused("a is c", TOWN, 1, 0, 1, 0, 0, 5, 5);
        refused("b is c", TOWN, 0, 1, 1, 0, 0, 5, 5);
        refused("all are one", TOWN, 1, 1, 1, 0, 0, 5, 5);
        refused("a is b of two", TOWN, 1, 1, NONE, 0, 0, 5, 0);
        for (int other : new int[] {-2, 7, 8, LEAST_INT, MOST_INT}) {
            refused("a is " + other, TOWN, other, 1, 2, 0, 0, 5, 5);
            refused("b is " + other, TOWN, 0, other, 2, 0, 0, 5, 5);
            refused("c is " + other, TOWN, 0, 1, other, 0, 0, 5, 5);
            refused("c is " + other + ", no time", TOWN, 0, 1, other, 0, 0, 5, 0);
        }
        refused("a is NONE", TOWN, NONE, 1, 2, 0, 0, 5, 5);
        refused("b is NONE", TOWN, 0, NONE, 2, 0, 0, 5, 5);
        refused("b and c are NONE", TOWN, 0, NONE, NONE, 0, 0, 5, 0);
        refused("all are NONE", TOWN, NONE, NONE, NONE, 0, 0, 5, 0);
    }

    /** "(c NONE: 2; q and the third digits are 0 then)". */
    private static void withoutThird() {
        told("two", OPEN, 0, 1, NONE, 0, 0, 5, 0);
        told("two of the highest numbers", OPEN, 0, 1, NONE, 77, 77, 5, 0);
        for (int q : new int[] {1, -1, 120, 121, LEAST_INT, MOST_INT}) {
            refused("two and q " + q, OPEN, 0, 1, NONE, 0, 0, 5, q);
        }
        for (int digits : new int[] {100, 111, 700, 900}) {
            refused("two and x " + digits, OPEN, 0, 1, NONE, digits, 0, 5, 0);
            refused("two and y " + digits, OPEN, 0, 1, NONE, 0, digits, 5, 0);
        }
    }

    /** "their TAKEN PLANS". */
    private static void takenPlans() {
        for (int without = 3; without <= 4; without++) {
            refused("a has none", TOWN, without, 1, 2, 0, 0, 5, 5);
            refused("b has none", TOWN, 0, without, 2, 0, 0, 5, 5);
            refused("c has none", TOWN, 0, 1, without, 0, 0, 5, 5);
            refused("a of two has none", TOWN, without, 1, NONE, 0, 0, 5, 0);
            refused("b of two has none", TOWN, 0, without, NONE, 0, 0, 5, 0);
        }
    }

    /** "of one CYCLE": one second more or less is another one. */
    private static void oneCycle() {
        for (int other = 5; other <= 6; other++) {
            refused("a's is another", TOWN, other, 1, 2, 0, 0, 5, 5);
            refused("b's is another", TOWN, 0, other, 2, 0, 0, 5, 5);
            refused("c's is another", TOWN, 0, 1, other, 0, 0, 5, 5);
            refused("b's of two is another", TOWN, 0, other, NONE, 0, 0, 5, 0);
        }
        refused("41 and 39", TOWN, 5, 6, NONE, 0, 0, 5, 0);
    }

    /** "x, y their STREAMS .. (three digits to the base of 10, the first junction the lowest)". */
    private static void digits() {
        told("the highest numbers", OPEN, 0, 1, 2, 777, 777, 5, 5);
        told("the lowest numbers", OPEN, 0, 1, 2, 0, 0, 5, 5);
        int[] none = {8, 9, 78, 80, 90, 787, 800, 877, 900, 999, 1000, 1007, 7777, -1, -7, -100, LEAST_INT, MOST_INT};
        for (int digits : none) {
            refused("x " + digits, OPEN, 0, 1, 2, digits, 0, 5, 5);
            refused("y " + digits, OPEN, 0, 1, 2, 0, digits, 5, 5);
        }
        for (int digits : new int[] {2, 20, 200}) {
            refused("two streams, x " + digits, TOWN, 0, 1, 2, digits, 0, 5, 5);
            refused("two streams, y " + digits, TOWN, 0, 1, 2, 0, digits, 5, 5);
        }
        // Of junctions that show streams 1 to 3 never green, only the right digits pass.
        Twins.Town only = desk -> {
            for (int k = 0; k < 3; k++) {
                Towns.addQuiet(desk, 4);
                Towns.takeAlways(desk, k, 1 << k + 1);
            }
        };
        Twins.is("25 1 of a, 2 of b, 3 of c", only, d -> d.width(0, 1, 2, 321, 0, 5, 5, 0), 20);
        Twins.is("25 back, too", only, d -> d.width(0, 1, 2, 0, 321, 5, 5, 1), 20);
        Twins.is("25 not the other way", only, d -> d.width(0, 1, 2, 123, 0, 5, 5, 0), 0);
        Twins.is("25 not back", only, d -> d.width(0, 1, 2, 321, 123, 5, 5, 1), 0);
    }

    /** "times from a to b, and from b to c, p and q (0 to 120)". */
    private static void times() {
        for (int time : new int[] {0, 1, 119, 120}) {
            told("p " + time, TOWN, 0, 1, 2, 0, 0, time, 5);
            told("q " + time, TOWN, 0, 1, 2, 0, 0, 5, time);
            told("p of two " + time, TOWN, 0, 1, NONE, 0, 0, time, 0);
        }
        for (int time : new int[] {-1, 121, LEAST_INT, MOST_INT}) {
            refused("p " + time, TOWN, 0, 1, 2, 0, 0, time, 5);
            refused("q " + time, TOWN, 0, 1, 2, 0, 0, 5, time);
            refused("p of two " + time, TOWN, 0, 1, NONE, 0, 0, time, 0);
        }
    }

    /** "there (what 0) .. back (1)"; "that lesser one (what 0), b's OFFSET (1), c's (2". */
    private static void whats() {
        int[] way = {0, 1, 2, 0, 111, 5, 5};
        for (int what : new int[] {2, -1, 3, LEAST_INT, MOST_INT}) {
            Twins.none("25 what " + what, TOWN, d -> width(d, way, what));
        }
        for (int what : new int[] {3, -1, 4, LEAST_INT, MOST_INT}) {
            Twins.none("26 what " + what, TOWN, d -> wave(d, way, what));
        }
    }

    /** "how many seconds t of the CYCLE there are": from none to all, in the least and the most. */
    private static void secondsOfTheCycle() {
        for (int cycle : new int[] {20, 90}) {
            Twins.Town town = desk -> {
                for (int k = 0; k < 3; k++) {
                    Towns.addQuiet(desk, 2);
                    Towns.begin(desk, k, cycle, 1, 10, 1, cycle - 10);
                    Due.due("12 taken", desk.take(k, 3 * k), 0);
                }
            };
            for (int what = 0; what < 2; what++) {
                int asked = what;
                Twins.still("25 all of " + cycle, town, d -> d.width(0, 1, 2, 0, 0, 120, 120, asked), cycle);
                Twins.still("25 all, of two", town, d -> d.width(0, 1, NONE, 0, 0, 120, 0, asked), cycle);
                Twins.still("25 none of " + cycle, town, d -> d.width(0, 1, 2, 10, 10, 7, 7, asked), 0);
            }
            dueWave("all of " + cycle, town, new int[] {0, 1, 2, 0, 0, 120, 120}, cycle, 0, 0);
            dueWave("all, of two", town, new int[] {0, 1, NONE, 0, 0, 120, 0}, cycle, 0, NONE);
            dueWave("none there", town, new int[] {0, 1, 2, 100, 0, 7, 7}, 0, 0, 0);
            Twins.still("26 none of " + cycle, town, d -> d.wave(0, 1, 2, 10, 10, 7, 7, 0), 0);
        }
    }

    /** "x of b at t + p": round the CYCLE, however often. */
    private static void roundTheCycle() {
        for (int p = 0; p <= 120; p++) {
            int time = p;
            // b is green from 10 + 0 to 10 + 17, so for a's it is p - 10 seconds away, either way.
            int away = Math.floorMod(p - 10, 40);
            int there = Math.max(0, 18 - Math.min(away, 40 - away));
            Twins.is("25 there in " + p, TOWN, d -> d.width(0, 1, NONE, 0, 0, time, 0, 0), there);
            int off = Math.floorMod(p + 10, 40);
            int back = Math.max(0, 18 - Math.min(off, 40 - off));
            Twins.is("25 back in " + p, TOWN, d -> d.width(0, 1, NONE, 0, 0, time, 0, 1), back);
        }
        Twins.is("25 120 and 120", TOWN, d -> d.width(0, 1, 2, 0, 0, 120, 120, 0), 0);
        Twins.is("25 90 and 95", TOWN, d -> d.width(0, 1, 2, 0, 0, 90, 95, 0), 18);
    }

    /** "back (1): y of the last one at t, and so on, with the same times". */
    private static void backWithTheSameTimes() {
        // c's OFFSET is 25, b's 10 and a's 0: 25 from c to b, 30 from b to a.
        Twins.is("25 30 and 25", TOWN, d -> d.width(0, 1, 2, 0, 0, 30, 25, 1), 18);
        Twins.is("25 25 and 30", TOWN, d -> d.width(0, 1, 2, 0, 0, 25, 30, 1), 13);
        Twins.is("25 one longer from c", TOWN, d -> d.width(0, 1, 2, 0, 0, 30, 26, 1), 17);
        Twins.is("25 one longer from b", TOWN, d -> d.width(0, 1, 2, 0, 0, 31, 25, 1), 17);
        Twins.is("25 y, not x", TOWN, d -> d.width(0, 1, 2, 0, 111, 30, 25, 1), 15);
    }

    private static void dueWave(String what, Twins.Town town, int[] way, int... want) {
        GreenDesk desk = Twins.desk(town);
        for (int k = 0; k < want.length; k++) {
            Due.due("26 " + what + ", " + k, wave(desk, way, k), want[k]);
        }
    }

    /** "with all OFFSETS of b and c": from 0 to CYCLE - 1. */
    private static void waveOffsets() {
        Twins.Town first = Twins.then(Towns.ofCrossing(0, 0), d -> Towns.addCrossing(d, 0, 7));
        // There and back these times make whole CYCLES, so that one OFFSET serves both.
        for (int time : new int[] {0, 20, 40, 60, 120}) {
            dueWave("both ways in " + time, first, new int[] {0, 1, NONE, 0, 0, time, 0}, 18, time % 40, NONE);
        }
        Twins.Town late = Twins.then(Towns.ofCrossing(0, 39), d -> {
            Towns.addCrossing(d, 0, 7);
            Towns.addCrossing(d, 0, 7);
        });
        dueWave("the last offsets", late, new int[] {0, 1, 2, 0, 0, 0, 0}, 18, 39, 39);
        dueWave("the last and the middle", late, new int[] {0, 1, 2, 0, 0, 0, 20}, 18, 39, 19);
        dueWave("the middle and the last", late, new int[] {0, 1, 2, 0, 0, 20, 20}, 18, 19, 39);
    }

    /** "(a's stays)". */
    private static void waveOfTheFirstOffset() {
        for (int offset : new int[] {0, 1, 20, 39}) {
            Twins.Town town = Twins.then(Towns.ofCrossing(0, offset), d -> Towns.addCrossing(d, 0, 3));
            dueWave("a's is " + offset, town, new int[] {0, 1, NONE, 0, 0, 20, 0}, 18, (offset + 20) % 40, NONE);
        }
    }

    /** "then b's OFFSET least, then c's". */
    private static void waveOfLeastOffsets() {
        dueWave("all alike", OPEN, new int[] {0, 1, 2, 0, 0, 7, 9}, 20, 0, 0);
        // b is always green: any OFFSET of its serves, c's is one.
        Twins.Town open = Twins.then(Towns.ofCrossing(0, 9), desk -> {
            Towns.addQuiet(desk, 2);
            Towns.begin(desk, 1, 40, 1, 20, 1, 20);
            Due.due("12 taken", desk.take(1, 33), 0);
            Towns.addCrossing(desk, 0, 5);
        });
        dueWave("b's least", open, new int[] {0, 1, 2, 0, 0, 10, 10}, 18, 0, 29);
        dueWave("c's least", open, new int[] {0, 2, 1, 0, 0, 20, 10}, 18, 29, 0);
        // b is green for 20 seconds, two more than a: OFFSETS 7 to 9 serve.
        Twins.Town wide = Twins.then(Towns.ofCrossing(0, 9), desk -> {
            Towns.addQuiet(desk, 2);
            Towns.begin(desk, 1, 40, 1, 20, 2, 20);
            Due.due("12 taken", desk.take(1, 0), 0);
        });
        dueWave("b's least of three", wide, new int[] {0, 1, NONE, 0, 0, 0, 0}, 18, 7, NONE);
    }

    /** "for which the lesser PASSING is greatest, then the sum of both". */
    private static void waveBySum() {
        // 0's stream 0 is always green, its 1 never; 1's are green for 10 and 30 seconds.
        Twins.Town town = desk -> {
            Towns.addQuiet(desk, 2);
            Towns.begin(desk, 0, 40, 1, 20, 1, 20);
            Due.due("12 taken", desk.take(0, 0), 0);
            Towns.addQuiet(desk, 2);
            Towns.begin(desk, 1, 40, 1, 10, 2, 30);
            Due.due("12 taken", desk.take(1, 0), 0);
            Towns.addCrossing(desk, 0, 11);
        };
        // 2's 1 is green from 32 to 6, its 0 from 11 to 28. From 4 on 1's 0 meets 3 seconds of
        // each, but from 25 on 4 of the one and 3 of the other, as it does from 26 on.
        dueWave("by the sum", town, new int[] {2, 1, NONE, 1, 0, 0, 0}, 3, 25, NONE);
        dueWave("0 and 30 for all", town, new int[] {0, 1, NONE, 1, 10, 0, 0}, 0, 0, NONE);
        dueWave("0 and 18 for all", town, new int[] {2, 0, NONE, 10, 0, 0, 0}, 0, 0, NONE);
        dueWave("0 for all, and 10 from 11 on", town, new int[] {2, 1, 0, 100, 0, 0, 0}, 0, 11, 0);
    }

    /** "c's (2; NONE without)". */
    private static void waveWithoutThird() {
        Twins.none("26 no c", TOWN, d -> d.wave(0, 1, NONE, 0, 11, 5, 0, 2));
        Twins.is("26 b all the same", TOWN, d -> d.wave(0, 1, NONE, 0, 11, 5, 0, 1), 38);
        Twins.is("26 behind one of three", Twins.then(TOWN, d -> d.wave(0, 1, 2, 0, 0, 0, 0, 2)),
                d -> d.wave(0, 1, NONE, 0, 11, 5, 0, 2), NONE);
    }

    /** "(Nothing is changed.)" */
    private static void waveChangesNothing() {
        int[] widths = {18, 0, NONE};
        int[] waves = {18, 0, 0};
        for (int what = 0; what < 3; what++) {
            int asked = what;
            Twins.still("26 of three", TOWN, d -> d.wave(0, 1, 2, 0, 0, 0, 0, asked), waves[what]);
            Twins.still("25 of three", TOWN, d -> d.width(0, 1, 2, 0, 0, 10, 15, asked), widths[what]);
        }
    }

    /** What one wave() has found out doesn't matter to the next. */
    private static void waveAnew() {
        for (int cycle : new int[] {20, 90}) {
            Twins.Town town = desk -> {
                for (int k = 0; k < 3; k++) {
                    Towns.addQuiet(desk, 2);
                    Towns.begin(desk, k, cycle, 1, 10, 1, cycle - 10);
                    Due.due("12 taken", desk.take(k, 0), 0);
                }
            };
            Twins.Town asked = Twins.then(town, d -> d.wave(0, 1, 2, 0, 0, 3, 3, 0));
            dueWave("none behind all", asked, new int[] {0, 1, 2, 111, 111, 3, 3}, 0, 0, 0);
            dueWave("two behind three", asked, new int[] {0, 1, NONE, 0, 0, 3, 0}, cycle, 0, NONE);
            Twins.Town none = Twins.then(town, d -> d.wave(0, 1, 2, 111, 111, 3, 3, 0));
            dueWave("all behind none", none, new int[] {0, 1, 2, 0, 0, 3, 3}, cycle, 0, 0);
            dueWave("two behind none", none, new int[] {0, 1, NONE, 0, 0, 3, 0}, cycle, 0, NONE);
        }
    }

    /** "their TAKEN PLANS", by which lamp() goes "as if nothing were torn". */
    private static void asIfNothingWereTorn() {
        Twins.Town torn = Twins.then(TOWN, desk -> {
            desk.tear(0, 0);
            desk.run(3);
            desk.offset(1, 11);
            desk.offset(1, 10);
        });
        Twins.yes("24 a flashes", torn, d -> d.flashes(0));
        Twins.is("25 as if it didn't", torn, d -> d.width(0, 1, NONE, 0, 0, 10, 0, 0), 18);
        Twins.is("26 as if it didn't", torn, d -> d.wave(0, 1, NONE, 0, 0, 0, 0, 0), 18);
    }
}
