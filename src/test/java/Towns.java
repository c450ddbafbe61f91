/** Junctions that several tests begin with. */
final class Towns {
    /** Three junctions with streets between them, ahead of the first second. */
    static final Twins.Town STILL = Towns::layStill;
    /** The same behind 85 seconds: 0 was told why, 1 flashes, 2 is clearing. */
    static final Twins.Town UNDER_WAY = Towns::layUnderWay;

    private Towns() {
    }

    /** One junction with so many plain streams that nothing comes to. */
    static GreenDesk quiet(int streams) {
        GreenDesk desk = new GreenDesk();
        addQuiet(desk, streams);
        return desk;
    }

    static int addQuiet(GreenDesk desk, int streams) {
        int junction = desk.junction();
        for (int i = 0; i < streams; i++) {
            desk.stream(junction, 0, 0, 1800, 4);
        }
        return junction;
    }

    /**
     * A junction of two streams, 3 seconds from 0 to 1 and 4 back, with a plan of 40 seconds:
     * 0 is green from 0 to 17, 1 from 21 to 35.
     */
    static int addCrossing(GreenDesk desk, int count, int offset) {
        int junction = desk.junction();
        desk.stream(junction, 0, count, 1800, 4);
        desk.stream(junction, 0, count, 1800, 4);
        desk.against(junction, 0, 1, 3, 4);
        takeCrossing(desk, junction, offset);
        return junction;
    }

    static int takeCrossing(GreenDesk desk, int junction, int offset) {
        begin(desk, junction, 40, 1, 18, 2, 15);
        return desk.take(junction, offset);
    }

    /** Begins a plan of so many seconds, with the bits and the green of each stage. */
    static void begin(GreenDesk desk, int junction, int cycle, int... stages) {
        desk.plan(junction, cycle);
        for (int s = 0; s + 1 < stages.length; s += 2) {
            desk.stage(junction, stages[s], stages[s + 1]);
        }
    }

    /** A plan of 20 seconds by which these streams are always green. */
    static void takeAlways(GreenDesk desk, int junction, int bits) {
        begin(desk, junction, 20, bits, 10, bits, 10);
        Due.due("12 always green", desk.take(junction, 0), 0);
    }

    /** Runs in steps that run() takes. */
    static int runOn(GreenDesk desk, int seconds) {
        int left = seconds;
        while (left > 0) {
            int step = Math.min(300, left);
            desk.run(step);
            left -= step;
        }
        return desk.count(1);
    }

    /** A town of one junction with so many plain streams that nothing comes to. */
    static Twins.Town ofQuiet(int streams) {
        return desk -> addQuiet(desk, streams);
    }

    /** A plan that is begun on a town's first junction. */
    static Twins.Town begun(Twins.Town town, int cycle, int... stages) {
        return Twins.then(town, desk -> begin(desk, 0, cycle, stages));
    }

    /** A town of one crossing. */
    static Twins.Town ofCrossing(int count, int offset) {
        return desk -> addCrossing(desk, count, offset);
    }

    /** 0 has no plan, 1 one that is taken, and 2 one that is taken and one that is begun. */
    private static void layStill(GreenDesk desk) {
        for (int k = 0; k < 3; k++) {
            desk.junction();
            desk.stream(k, 0, 700, 1800, 5);
            desk.stream(k, 0, 300, 1500, 5);
            desk.stream(k, 1, 200, 1700, 4);
            desk.stream(k, 2, 200, 0, 4);
            desk.against(k, 0, 1, 3, 4);
            desk.against(k, 1, 2, 2, 5);
            desk.against(k, 0, 3, 5, 6);
            desk.yields(k, 2, 1);
        }
        desk.street(0, 0, 1, 0, 12, 9);
        desk.street(1, 0, 2, 0, 20, 30);
        desk.street(2, 1, 1, 1, 7, 3);
        // The betweens are of 5 and 6 seconds.
        begin(desk, 1, 40, 1 + 4, 15, 2 + 8, 14);
        desk.take(1, 7);
        begin(desk, 2, 40, 1 + 4, 15, 2 + 8, 14);
        desk.take(2, 14);
        begin(desk, 2, 60, 1 + 4, 25, 2 + 8, 24);
    }

    private static void layUnderWay(GreenDesk desk) {
        layStill(desk);
        desk.run(70);
        begin(desk, 0, 40, 1 + 4, 22, 2 + 8, 7);
        desk.take(0, 0);
        desk.tear(1, 1);
        desk.run(10);
        desk.offset(2, 33);
        desk.run(5);
    }
}
