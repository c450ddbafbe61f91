/**
 * The edges of Terms 2 and of promises 10 to 16 and 19: plan, stage, take, why, told, offset,
 * tear, green. Each function asks for the sentence that stands above it.
 */
public final class EdgesOfPlansTest {
    private static final int NONE = GreenDesk.NONE;
    private static final int LEAST_INT = Integer.MIN_VALUE;
    private static final int MOST_INT = Integer.MAX_VALUE;

    private static final Twins.Town ONE = Towns.ofQuiet(1);
    private static final Twins.Town EIGHT = Towns.ofQuiet(8);
    private static final Twins.Town AGAINST = Twins.then(Towns.ofQuiet(2), d -> d.against(0, 0, 1, 3, 4));
    private static final Twins.Town CROSSING = Towns.ofCrossing(300, 5);
    private static final Twins.Town FLASHING = EdgesOfPlansTest::layFlashing;

    public static void main(String[] args) {
        cycles();
        planInPlace();
        stageGreens();
        stagesUpToFour();
        stageOfNone();
        stageSets();
        takeOfNone();
        takeOffsets();
        takeOfTwoToFour();
        takeGreens();
        takeSums();
        takeTellsTheFirst();
        takeStaysBegun();
        takeInPlace();
        modulo();
        Due.end();
    }

    private static void layFlashing(GreenDesk desk) {
        Towns.addCrossing(desk, 300, 5);
        desk.run(30);
        desk.tear(0, 1);
        desk.run(20);
    }

    /** "a CYCLE (20 to 90 seconds)"; "False, doing nothing: no such junction, CYCLE." */
    private static void cycles() {
        for (int cycle : new int[] {20, 21, 89, 90}) {
            Twins.yes("10 cycle " + cycle, ONE, d -> d.plan(0, cycle));
            Twins.is("10 below " + cycle, Towns.begun(ONE, cycle), d -> d.take(0, cycle - 1), 2);
            Twins.is("10 the cycle is " + cycle, Towns.begun(ONE, cycle), d -> d.take(0, cycle), 1);
        }
        for (int cycle : new int[] {19, 91, 0, -1, LEAST_INT, MOST_INT}) {
            Twins.no("10 of none, cycle " + cycle, ONE, d -> d.plan(0, cycle));
            Twins.no("10 of one begun, cycle " + cycle, Towns.begun(ONE, 30, 1, 9), d -> d.plan(0, cycle));
            for (int k = 0; k < 3; k++) {
                int junction = k;
                Twins.no("10 still, cycle " + cycle, Towns.STILL, d -> d.plan(junction, cycle));
                Twins.no("10 under way, cycle " + cycle, Towns.UNDER_WAY, d -> d.plan(junction, cycle));
            }
        }
    }

    /** "A PLAN is begun (in place of one that isn't TAKEN yet)". */
    private static void planInPlace() {
        Twins.Town anew = Twins.then(Towns.begun(AGAINST, 30, 1, 10, 2, 13), d -> d.plan(0, 50));
        Twins.is("10 its stages are gone", anew, d -> d.green(0, 0), NONE);
        Twins.is("10 its next stage is the first", anew, d -> d.stage(0, 2, 7), 0);
        Twins.is("10 its cycle is the new one", anew, d -> d.take(0, 49), 2);
        Twins.Town beside = Twins.then(CROSSING, d -> d.plan(0, 50));
        Twins.is("10 the taken one's cycle stays", beside, d -> d.told(0, 0), 40);
        Twins.is("10 the taken one's stages stay", beside, d -> d.told(0, 2), 2);
        Twins.is("10 and its lamps", beside, d -> d.lamp(0, 0, 5), 1);
        Twins.is("10 it runs on", Twins.then(beside, d -> d.run(6)), d -> d.queue(0, 0, 11), 1);
    }

    /** "with a GREEN (0 to 90): its number"; "NONE, doing nothing: .. no such GREEN". */
    private static void stageGreens() {
        Twins.Town town = Towns.begun(AGAINST, 30);
        for (int green : new int[] {0, 1, 89, 90}) {
            Twins.is("11 green " + green, town, d -> d.stage(0, 1, green), 0);
            Twins.is("11 it is " + green, Towns.begun(AGAINST, 30, 1, green), d -> d.green(0, 0), green);
        }
        for (int green : new int[] {-1, 91, LEAST_INT, MOST_INT}) {
            Twins.none("11 green " + green, town, d -> d.stage(0, 1, green));
        }
    }

    /** "2 to 4 STAGES in their order"; "NONE, doing nothing: .. there are 4." */
    private static void stagesUpToFour() {
        int[][] rows = {{}, {1, 5}, {1, 5, 2, 6}, {1, 5, 2, 6, 1, 7}};
        for (int n = 0; n < rows.length; n++) {
            Twins.is("11 behind " + n, Towns.begun(AGAINST, 60, rows[n]), d -> d.stage(0, 2, 8), n);
        }
        Twins.Town four = Towns.begun(AGAINST, 60, 1, 5, 2, 6, 1, 7, 2, 8);
        Twins.none("11 there are 4", four, d -> d.stage(0, 1, 9));
        for (int s = 0; s < 4; s++) {
            int stage = s;
            Twins.still("19 in their order", four, d -> d.green(0, stage), 5 + s);
        }
        for (int s : new int[] {-1, 4, LEAST_INT, MOST_INT}) {
            Twins.none("19 of stage " + s, four, d -> d.green(0, s));
        }
        Twins.none("19 of the third of two", Towns.begun(AGAINST, 60, rows[2]), d -> d.green(0, 2));
    }

    /** "NONE, doing nothing: none is begun"; "The GREEN .. of the PLAN that is begun; NONE". */
    private static void stageOfNone() {
        Twins.none("11 none was begun", ONE, d -> d.stage(0, 1, 9));
        Twins.none("11 one is taken", CROSSING, d -> d.stage(0, 1, 9));
        Twins.none("11 one is taken and run", FLASHING, d -> d.stage(0, 1, 9));
        Twins.none("19 none was begun", ONE, d -> d.green(0, 0));
        Twins.none("19 none has a stage yet", Towns.begun(ONE, 30), d -> d.green(0, 0));
        Twins.none("19 one is taken", CROSSING, d -> d.green(0, 0));
        Twins.is("19 of that which is begun", Towns.begun(CROSSING, 60, 1, 33), d -> d.green(0, 0), 33);
    }

    /** "each a SET that isn't empty"; "NONE, doing nothing: .. bits is no SET that isn't empty". */
    private static void stageSets() {
        Twins.Town two = Towns.begun(AGAINST, 30);
        for (int bits : new int[] {0, 3, 4, 5, -1, LEAST_INT, LEAST_INT + 1, MOST_INT}) {
            Twins.none("11 bits " + bits, two, d -> d.stage(0, bits, 9));
        }
        Twins.is("11 bits 1", two, d -> d.stage(0, 1, 9), 0);
        Twins.is("11 bits 2", two, d -> d.stage(0, 2, 9), 0);
        Twins.Town eight = Towns.begun(EIGHT, 30);
        Twins.is("11 all eight", eight, d -> d.stage(0, 255, 9), 0);
        Twins.is("11 the eighth", eight, d -> d.stage(0, 128, 9), 0);
        Twins.none("11 a ninth", eight, d -> d.stage(0, 256, 9));
        Twins.none("11 without streams", Towns.begun(Towns.ofQuiet(0), 30), d -> d.stage(0, 1, 9));
    }

    /** "1 none is begun". */
    private static void takeOfNone() {
        Twins.still("12 none was begun", ONE, d -> d.take(0, 0), 1);
        Twins.still("12 one is taken", CROSSING, d -> d.take(0, 5), 1);
        Twins.still("12 one is taken and flashes", FLASHING, d -> d.take(0, 5), 1);
    }

    /** "an OFFSET (0 to CYCLE - 1)"; "1 .. the OFFSET is outside". */
    private static void takeOffsets() {
        for (int cycle : new int[] {20, 57, 90}) {
            Twins.Town town = Towns.begun(ONE, cycle, 1, 9, 1, cycle - 9);
            for (int offset : new int[] {0, 1, cycle - 1}) {
                Twins.is("12 offset " + offset, town, d -> d.take(0, offset), 0);
                Twins.Town taken = Twins.then(town, d -> d.take(0, offset));
                Twins.is("14 offset " + offset, taken, d -> d.told(0, 1), offset);
            }
            for (int offset : new int[] {-1, cycle, cycle + 1, LEAST_INT, MOST_INT}) {
                Twins.still("12 offset " + offset, town, d -> d.take(0, offset), 1);
            }
        }
    }

    /** "2 to 4 STAGES"; "2 less than 2 STAGES". */
    private static void takeOfTwoToFour() {
        Twins.still("12 no stage", Towns.begun(ONE, 30), d -> d.take(0, 0), 2);
        Twins.still("12 one stage", Towns.begun(ONE, 30, 1, 30), d -> d.take(0, 0), 2);
        Twins.is("12 two stages", Towns.begun(ONE, 30, 1, 15, 1, 15), d -> d.take(0, 0), 0);
        Twins.is("12 three stages", Towns.begun(ONE, 30, 1, 10, 1, 10, 1, 10), d -> d.take(0, 0), 0);
        Twins.is("12 four stages", Towns.begun(ONE, 30, 1, 5, 1, 10, 1, 10, 1, 5), d -> d.take(0, 0), 0);
    }

    /** "each GREEN is at least 1"; "3 a GREEN below 1". */
    private static void takeGreens() {
        for (int s = 0; s < 4; s++) {
            int[] stages = {1, 10, 1, 10, 1, 10, 1, 10};
            stages[2 * s + 1] = 0;
            Twins.still("12 stage " + s + " has 0", Towns.begun(ONE, 30, stages), d -> d.take(0, 0), 3);
            stages[2 * s + 1] = 1;
            Twins.is("12 stage " + s + " has 1", Towns.begun(ONE, 31, stages), d -> d.take(0, 0), 0);
        }
    }

    /** "All GREENS and BETWEENS add up to the CYCLE"; "4 they don't add up". */
    private static void takeSums() {
        for (int cycle : new int[] {20, 90}) {
            int rest = cycle - 7 - 6;
            Twins.is("12 they add up", Towns.begun(AGAINST, cycle, 1, 6, 2, rest), d -> d.take(0, 0), 0);
            Twins.still("12 one less", Towns.begun(AGAINST, cycle, 1, 6, 2, rest - 1), d -> d.take(0, 0), 4);
            Twins.still("12 one more", Towns.begun(AGAINST, cycle, 1, 6, 2, rest + 1), d -> d.take(0, 0), 4);
        }
        Twins.still("12 as without betweens", Towns.begun(AGAINST, 20, 1, 10, 2, 10), d -> d.take(0, 0), 4);
        Twins.Town most = Towns.begun(AGAINST, 90, 1, 90, 2, 90, 1, 90, 2, 90);
        Twins.still("12 as much as can be told", most, d -> d.take(0, 0), 4);
    }

    /** "or why it isn't, the first of: 1 .. 2 .. 3 .. 4 .. 5 .. 6". */
    private static void takeTellsTheFirst() {
        Twins.is("12 1 ahead of 2", Towns.begun(AGAINST, 30), d -> d.take(0, 30), 1);
        Twins.is("12 1 ahead of 4", Towns.begun(AGAINST, 30, 1, 9, 2, 9), d -> d.take(0, -1), 1);
        Twins.is("12 2 ahead of 3", Towns.begun(AGAINST, 30, 1, 0), d -> d.take(0, 0), 2);
        Twins.is("12 3 ahead of 4", Towns.begun(AGAINST, 30, 1, 0, 2, 9), d -> d.take(0, 0), 3);
        Twins.is("12 4 ahead of 5", Towns.begun(AGAINST, 30, 1, 3, 2, 9), d -> d.take(0, 0), 4);
        // 9 seconds from 0 to 2, but the stage of 1 has 3.
        Twins.Town far = Twins.then(Towns.ofQuiet(3), d -> d.against(0, 0, 2, 9, 1));
        Twins.is("12 5 ahead of 6", Towns.begun(far, 30, 1, 10, 2, 3, 4, 16), d -> d.take(0, 0), 5);
        Twins.is("12 6 alone", Towns.begun(far, 30, 1, 10, 2, 4, 4, 15), d -> d.take(0, 0), 6);
    }

    /** "It stays begun then.": with all that was there beside it. */
    private static void takeStaysBegun() {
        for (Twins.Town town : new Twins.Town[] {AGAINST, CROSSING, FLASHING}) {
            Twins.still("12 told 1", Towns.begun(town, 30, 1, 10, 2, 13), d -> d.take(0, 30), 1);
            Twins.still("12 told 2", Towns.begun(town, 30, 1, 10), d -> d.take(0, 9), 2);
            Twins.still("12 told 3", Towns.begun(town, 30, 1, 0, 2, 23), d -> d.take(0, 9), 3);
            Twins.still("12 told 4", Towns.begun(town, 30, 1, 9, 2, 13), d -> d.take(0, 9), 4);
            Twins.stillButWhy("12 told 5", Towns.begun(town, 30, 1, 3, 2, 20), d -> d.take(0, 9), 5);
        }
        Twins.Town far = Twins.then(Towns.ofQuiet(3), d -> d.against(0, 0, 2, 9, 1));
        Twins.Town taken = Twins.then(Towns.begun(far, 30, 1, 15, 2, 15), d -> d.take(0, 4));
        Twins.Town torn = Twins.then(Twins.then(taken, d -> d.run(9)), d -> d.tear(0, 1));
        for (Twins.Town town : new Twins.Town[] {far, taken, torn, Twins.then(torn, d -> d.run(30))}) {
            Twins.Town near = Towns.begun(town, 30, 1, 10, 2, 4, 4, 15);
            Twins.stillButWhy("12 told 6", near, d -> d.take(0, 9), 6);
        }
    }

    /** "is TAKEN .., in place of what was there (it FLASHES no more, no row is torn): 0". */
    private static void takeInPlace() {
        Twins.Town anew = Towns.begun(FLASHING, 30, 2, 8, 1, 15);
        Twins.Town taken = Twins.then(anew, d -> d.take(0, 29));
        Twins.yes("12 it flashed", anew, d -> d.flashes(0));
        Twins.is("12 a green was gone", anew, d -> d.told(0, 21), NONE);
        Twins.is("12 taken", anew, d -> d.take(0, 29), 0);
        Twins.no("12 it flashes no more", taken, d -> d.flashes(0));
        Twins.is("12 none flashes", taken, d -> d.count(2), 0);
        int[][] told = {{0, 30}, {1, 29}, {2, 2}, {3, 7}, {10, 2}, {11, 1}, {20, 8}, {21, 15}, {30, 4}, {31, 3}};
        for (int[] each : told) {
            Twins.still("12 in place, " + each[0], taken, d -> d.told(0, each[0]), each[1]);
        }
        Twins.none("12 none is begun now", taken, d -> d.green(0, 0));
        Twins.no("12 nor does it flash later", Twins.then(taken, d -> d.run(200)), d -> d.flashes(0));
    }

    /** "At SECOND t a PLAN is at (t - OFFSET) modulo CYCLE (from 0 on)". */
    private static void modulo() {
        for (int offset : new int[] {0, 1, 20, 39}) {
            GreenDesk desk = Twins.desk(Towns.ofCrossing(0, offset));
            for (int t = 0; t < 120; t++) {
                int place = (t - offset + 40) % 40;
                int first = place < 18 ? 1 : 0;
                int second = place >= 21 && place < 36 ? 1 : 0;
                Due.due("20 offset " + offset + ", 0 at " + t, desk.lamp(0, 0, t), first);
                Due.due("20 offset " + offset + ", 1 at " + t, desk.lamp(0, 1, t), second);
            }
        }
    }
}
