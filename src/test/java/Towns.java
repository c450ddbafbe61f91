/** Junctions that several tests begin with. */
final class Towns {
    private Towns() {
    }

    /** One junction with so many plain streams that nothing comes to. */
    static GreenDesk quiet(int streams) {
        GreenDesk desk = new GreenDesk();
        addQuiet(desk, streams);
        return desk;
    }

    static int addQuiet(GreenDesk desk, int streams) {
        int junction = desk.junction();
        for (int i = 0; i < streams; i++) {
            desk.stream(junction, 0, 0, 1800, 4);
        }
        return junction;
    }

    /**
     * A junction of two streams, 3 seconds from 0 to 1 and 4 back, with a plan of 40 seconds:
     * 0 is green from 0 to 17, 1 from 21 to 35.
     */
    static int addCrossing(GreenDesk desk, int count, int offset) {
        int junction = desk.junction();
        desk.stream(junction, 0, count, 1800, 4);
        desk.stream(junction, 0, count, 1800, 4);
        desk.against(junction, 0, 1, 3, 4);
        takeCrossing(desk, junction, offset);
        return junction;
    }

    static int takeCrossing(GreenDesk desk, int junction, int offset) {
        desk.plan(junction, 40);
        desk.stage(junction, 1, 18);
        desk.stage(junction, 2, 15);
        return desk.take(junction, offset);
    }

    /** Runs in steps that run() takes. */
    static int runOn(GreenDesk desk, int seconds) {
        int left = seconds;
        while (left > 0) {
            int step = Math.min(300, left);
            desk.run(step);
            left -= step;
        }
        return desk.count(1);
    }
}
