/** The edges of promises 17 and 18: share, fit. Each function asks for the sentence above it. */
public final class EdgesOfGreensTest {
    private static final int NONE = GreenDesk.NONE;
    private static final int LEAST_INT = Integer.MIN_VALUE;
    private static final int MOST_INT = Integer.MAX_VALUE;

    public static void main(String[] args) {
        shareCycles();
        shareGreensOfOne();
        shareAtLeast();
        shareOfEachStream();
        shareOfSumsOfGreens();
        shareOfAllParts();
        shareWithout();
        fitCycles();
        fitThatAddsUp();
        fitOfTheFirst();
        fitOfStreamsInSomeStage();
        fitOfExactParts();
        fitOfTheGreatestLoad();
        fitOfAllRows();
        fitBecomes();
        fitWithout();
        Due.end();
    }

    /** One junction of streams with these counts and rates. */
    private static Twins.Town streams(int[]... countsAndRates) {
        return desk -> {
            desk.junction();
            for (int[] each : countsAndRates) {
                desk.stream(0, 0, each[0], each[1], 4);
            }
        };
    }

    /** Two streams, each in a stage of its own. */
    private static Twins.Town two(int count0, int count1, int there, int back) {
        Twins.Town town = streams(new int[] {count0, 1800}, new int[] {count1, 1800});
        return Towns.begun(Twins.then(town, d -> d.against(0, 0, 1, there, back)), 50, 1, 9, 2, 8);
    }

    /** "The least CYCLE (20 to 90)": a third of it for each of two streams, and the betweens. */
    private static void shareCycles() {
        Twins.still("17 below 20 it is 20", two(600, 600, 2, 2), d -> d.share(0), 20);
        Twins.still("17 just above 20", two(600, 600, 3, 4), d -> d.share(0), 21);
        Twins.still("17 just 90", two(600, 600, 15, 15), d -> d.share(0), 90);
        Twins.none("17 beyond 90", two(600, 600, 15, 16), d -> d.share(0));
        Twins.none("17 never", two(900, 900, 1, 1), d -> d.share(0));
        Twins.still("17 at 90 too", two(880, 880, 1, 1), d -> d.share(0), 90);
        Twins.none("17 not at 90", two(881, 880, 1, 1), d -> d.share(0));
    }

    /** "GREENS (1 at least) for the STAGES .., so that with their BETWEENS they add up". */
    private static void shareGreensOfOne() {
        Twins.still("17 9, 9 and two greens", two(0, 0, 9, 9), d -> d.share(0), 20);
        Twins.still("17 10, 9 and two greens", two(0, 0, 10, 9), d -> d.share(0), 21);
        Twins.still("17 20, 20 and two greens", two(0, 0, 20, 20), d -> d.share(0), 42);
        Twins.Town most = Twins.then(Towns.ofQuiet(2), d -> d.against(0, 0, 1, 20, 20));
        Twins.still("17 80 and four greens", Towns.begun(most, 20, 1, 0, 2, 0, 1, 0, 2, 0), d -> d.share(0), 84);
    }

    /** "RATE times the sum .. is at least COUNT times CYCLE": just so much is enough. */
    private static void shareAtLeast() {
        int[] quiet = {0, 1800};
        // Of 20 seconds 19 are left for stream 0.
        Twins.Town just = streams(new int[] {3420, 3600}, quiet);
        Twins.still("17 just so much", Towns.begun(just, 60, 1, 5, 2, 5), d -> d.share(0), 20);
        Twins.Town more = streams(new int[] {3421, 3600}, quiet);
        Twins.still("17 one more", Towns.begun(more, 60, 1, 5, 2, 5), d -> d.share(0), 21);
        // 571 * 20 is one more than 601 * 19.
        Twins.Town parts = streams(new int[] {571, 601}, quiet);
        Twins.still("17 a part of a second more", Towns.begun(parts, 60, 1, 5, 2, 5), d -> d.share(0), 21);
        Twins.Town all = streams(new int[] {3560, 3600}, quiet);
        Twins.still("17 89 of 90", Towns.begun(all, 60, 1, 5, 2, 5), d -> d.share(0), 90);
        Twins.Town beyond = streams(new int[] {3561, 3600}, quiet);
        Twins.none("17 more than 89 of 90", Towns.begun(beyond, 60, 1, 5, 2, 5), d -> d.share(0));
        Twins.Town both = streams(new int[] {3600, 3600}, quiet);
        Twins.still("17 in all stages", Towns.begun(both, 60, 1, 5, 1 + 2, 5), d -> d.share(0), 20);
        Twins.Town above = streams(new int[] {3600, 3599}, quiet);
        Twins.none("17 above its rate", Towns.begun(above, 60, 1, 5, 1 + 2, 5), d -> d.share(0));
    }

    /** "for each STREAM": also for one that is in no stage, unless nothing comes to it. */
    private static void shareOfEachStream() {
        int[] quiet = {0, 1800};
        Twins.Town one = streams(quiet, quiet, new int[] {1, 3600});
        Twins.none("17 one in no stage", Towns.begun(one, 60, 1, 5, 2, 5), d -> d.share(0));
        Twins.still("17 in a stage", Towns.begun(one, 60, 1, 5, 2 + 4, 5), d -> d.share(0), 20);
        Twins.Town none = streams(quiet, quiet, quiet);
        Twins.still("17 nothing comes to it", Towns.begun(none, 60, 1, 5, 2, 5), d -> d.share(0), 20);
        for (int i = 0; i < 8; i++) {
            int[][] eight = {quiet, quiet, quiet, quiet, quiet, quiet, quiet, quiet};
            eight[i] = new int[] {1, 3600};
            int others = 255 - (1 << i);
            Twins.none("17 " + i + " in none", Towns.begun(streams(eight), 60, others, 5, others, 5), d -> d.share(0));
            Twins.still("17 " + i + " in one", Towns.begun(streams(eight), 60, others, 5, 255, 5), d -> d.share(0), 20);
        }
    }

    /** "the sum of GREENS of all STAGES that have it": of two, three or four. */
    private static void shareOfSumsOfGreens() {
        int[] quiet = {0, 1800};
        for (int stages = 2; stages <= 4; stages++) {
            // The last stage is stream 1's alone, so that stream 0 has all but one second.
            int[] rows = new int[2 * stages];
            for (int s = 0; s < stages; s++) {
                rows[2 * s] = s < stages - 1 ? 1 : 2;
            }
            Twins.Town just = streams(new int[] {3420, 3600}, quiet);
            Twins.still("17 of " + stages, Towns.begun(just, 60, rows), d -> d.share(0), 20);
            Twins.Town more = streams(new int[] {3421, 3600}, quiet);
            Twins.still("17 more, of " + stages, Towns.begun(more, 60, rows), d -> d.share(0), 21);
        }
        Twins.Town full = streams(new int[] {3600, 3600});
        Twins.Town over = streams(new int[] {3600, 3599});
        for (int[] rows : new int[][] {{1, 0, 1, 0}, {1, 0, 1, 0, 1, 0}, {1, 0, 1, 0, 1, 0, 1, 0}}) {
            Twins.still("17 in all", Towns.begun(full, 60, rows), d -> d.share(0), 20);
            Twins.none("17 in all, and more than these", Towns.begun(over, 60, rows), d -> d.share(0));
        }
        for (int s = 0; s < 4; s++) {
            int[] rows = {1, 0, 1, 0, 1, 0, 1, 0};
            rows[2 * s] = 2;
            Twins.Town most = streams(new int[] {3420, 3600}, quiet);
            Twins.still("17 in all but " + s, Towns.begun(most, 60, rows), d -> d.share(0), 20);
            Twins.Town more = streams(new int[] {3421, 3600}, quiet);
            Twins.still("17 more, in all but " + s, Towns.begun(more, 60, rows), d -> d.share(0), 21);
        }
    }

    /** The parts of four stages, or of pairs of them, are just as much as there is. */
    private static void shareOfAllParts() {
        int[][] orders = {{1, 2, 4, 8}, {8, 4, 2, 1}, {2, 8, 1, 4}, {4, 1, 8, 2}};
        for (int[] order : orders) {
            int[] rows = {order[0], 0, order[1], 0, order[2], 0, order[3], 0};
            // A tenth, two, three and four tenths.
            Twins.Town tenths = streams(new int[] {360, 3600}, new int[] {720, 3600}, new int[] {1080, 3600},
                    new int[] {1440, 3600});
            Twins.still("17 ten tenths", Towns.begun(tenths, 60, rows), d -> d.share(0), 20);
            Twins.Town more = streams(new int[] {360, 3600}, new int[] {721, 3600}, new int[] {1080, 3600},
                    new int[] {1440, 3600});
            Twins.none("17 more than ten", Towns.begun(more, 60, rows), d -> d.share(0));
        }
        // Three streams are in two each of three stages: 59, 59 and 60 are twice the 89 of 90.
        int[] pairs = {8, 0, 1 + 2, 0, 1 + 4, 0, 2 + 4, 0};
        int[][] greens = {{1, 30, 30, 29}, {1, 30, 29, 30}, {1, 29, 30, 30}};
        for (int i = 0; i < 3; i++) {
            int[][] just = {{2360, 3600}, {2360, 3600}, {2360, 3600}, {0, 600}};
            just[i][0] = 2400;
            Twins.still("17 twice as much", Towns.begun(streams(just), 60, pairs), d -> d.share(0), 90);
            dueFit("18 twice as much", Towns.begun(streams(just), 60, pairs), 90, greens[i]);
            int[][] beyond = {{2360, 3600}, {2360, 3600}, {2360, 3600}, {0, 600}};
            beyond[i][0] = 2401;
            Twins.none("17 more than twice", Towns.begun(streams(beyond), 60, pairs), d -> d.share(0));
        }
    }

    /** "NONE: there is none, none is begun, less than 2 STAGES." */
    private static void shareWithout() {
        Twins.Town one = Towns.ofQuiet(1);
        Twins.none("17 none is begun", one, d -> d.share(0));
        Twins.none("17 one is taken", Towns.ofCrossing(100, 0), d -> d.share(0));
        Twins.none("17 no stage", Towns.begun(one, 60), d -> d.share(0));
        Twins.none("17 one stage", Towns.begun(one, 60, 1, 60), d -> d.share(0));
        Twins.still("17 two stages", Towns.begun(one, 60, 1, 30, 1, 30), d -> d.share(0), 20);
        Twins.none("17 without streams", Towns.begun(Towns.ofQuiet(0), 60), d -> d.share(0));
    }

    private static void dueFit(String what, Twins.Town town, int cycle, int... greens) {
        GreenDesk desk = Twins.desk(town);
        Due.due(what, desk.fit(0, cycle), true);
        for (int s = 0; s < greens.length; s++) {
            Due.due(what + ", green " + s, desk.green(0, s), greens[s]);
        }
        Due.due(what + ", no more", desk.green(0, greens.length), NONE);
    }

    /** "a CYCLE (20 to 90)"; "False, doing nothing". */
    private static void fitCycles() {
        Twins.Town town = two(600, 600, 2, 2);
        dueFit("18 cycle 20", town, 20, 8, 8);
        dueFit("18 cycle 90", town, 90, 43, 43);
        for (int cycle : new int[] {19, 91, 0, -1, LEAST_INT, MOST_INT}) {
            Twins.no("18 cycle " + cycle, town, d -> d.fit(0, cycle));
        }
    }

    /** "GREENS (1 at least) .., that add up with the BETWEENS"; "or they can't add up". */
    private static void fitThatAddsUp() {
        dueFit("18 one for each", two(600, 100, 20, 20), 42, 1, 1);
        Twins.no("18 one too few", two(600, 100, 20, 20), d -> d.fit(0, 41));
        Twins.no("18 none at all", two(600, 100, 20, 20), d -> d.fit(0, 40));
        Twins.no("18 less than none", two(600, 100, 20, 20), d -> d.fit(0, 20));
        dueFit("18 of 20, one for each", two(600, 100, 9, 9), 20, 1, 1);
        Twins.no("18 of 20, one too few", two(600, 100, 9, 10), d -> d.fit(0, 20));
        Twins.Town most = Twins.then(Towns.ofQuiet(2), d -> d.against(0, 0, 1, 20, 20));
        Twins.Town four = Towns.begun(most, 20, 1, 0, 2, 0, 1, 0, 2, 0);
        dueFit("18 four, one for each", four, 84, 1, 1, 1, 1);
        Twins.no("18 four, one too few", four, d -> d.fit(0, 83));
        dueFit("18 four, 90", four, 90, 1, 1, 1, 7);
    }

    /** "of several the least first GREEN, then second, and so on". */
    private static void fitOfTheFirst() {
        Twins.Town quiet = Towns.begun(Towns.ofQuiet(1), 60, 1, 9, 1, 9, 1, 9, 1, 9);
        dueFit("18 nothing comes", quiet, 20, 1, 1, 1, 17);
        dueFit("18 one over", two(600, 600, 2, 2), 21, 8, 9);
        int[] busy = {600, 1800};
        Twins.Town first = Towns.begun(streams(busy, new int[] {0, 1800}), 60, 1, 9, 2, 9, 1, 9);
        dueFit("18 the first least, then the second", first, 30, 1, 1, 28);
        Twins.Town middle = Towns.begun(streams(busy, busy), 60, 1, 9, 2, 9, 1, 9, 2, 9);
        dueFit("18 halves", middle, 40, 1, 1, 19, 19);
        dueFit("18 halves and one over", middle, 41, 1, 1, 19, 20);
    }

    /** "of all STREAMS in some STAGE": one in no stage isn't asked. */
    private static void fitOfStreamsInSomeStage() {
        Twins.Town town = streams(new int[] {600, 1800}, new int[] {300, 1800}, new int[] {3600, 600});
        dueFit("18 two to one", Towns.begun(town, 60, 1, 9, 2, 9), 30, 20, 10);
        dueFit("18 where it is in one", Towns.begun(town, 60, 1, 9, 2 + 4, 9), 30, 2, 28);
    }

    /** "COUNT * CYCLE by RATE * sum of GREENS": parts that differ by very little. */
    private static void fitOfExactParts() {
        // Loads of 3,599 by 3,599 and 3,600 by 3,600 are alike.
        Twins.Town alike = streams(new int[] {3599, 3599}, new int[] {3600, 3600});
        dueFit("18 alike, the first least", Towns.begun(alike, 60, 1, 9, 2, 9), 21, 10, 11);
        Twins.Town first = streams(new int[] {3600, 3599}, new int[] {3600, 3600});
        dueFit("18 a little more of the first", Towns.begun(first, 60, 1, 9, 2, 9), 21, 11, 10);
        Twins.Town second = streams(new int[] {3599, 3600}, new int[] {3600, 3600});
        dueFit("18 a little more of the second", Towns.begun(second, 60, 1, 9, 2, 9), 21, 10, 11);
    }

    /** "by which the greatest LOAD is least": that of one stream, in whichever stages it is. */
    private static void fitOfTheGreatestLoad() {
        int[] little = {100, 1800};
        for (int s = 0; s < 4; s++) {
            // One is in a stage of its own, with 36 times as much as the other has for three.
            int[] stages = {2, 9, 2, 9, 2, 9, 2, 9};
            stages[2 * s] = 1;
            int[] greens = {1, 1, 1, 1};
            greens[s] = 17;
            dueFit("18 by stage " + s, Towns.begun(streams(new int[] {3600, 1800}, little), 60, stages), 20, greens);
            // As the second stream too.
            int[] turned = {1, 9, 1, 9, 1, 9, 1, 9};
            turned[2 * s] = 2;
            dueFit("18 by stage " + s + ", stream 1",
                    Towns.begun(streams(little, new int[] {3600, 1800}), 60, turned), 20, greens);
        }
        Twins.Town one = streams(new int[] {1, 3600}, new int[] {1, 3600});
        dueFit("18 by one an hour", Towns.begun(one, 60, 1, 9, 2, 9), 20, 10, 10);
        // Stream 0 is in both and has the greatest load, 1,000 by 20; 210 by 5 is less, by 4 more.
        Twins.Town both = streams(new int[] {1000, 1800}, new int[] {210, 1800});
        dueFit("18 by one in all", Towns.begun(both, 60, 1 + 2, 9, 1, 9), 20, 5, 15);
        // 3,600 by 600 times 2 or 3 are loads far above 1.
        Twins.Town heavy = Twins.then(streams(new int[] {3600, 600}, new int[] {3600, 600}),
                d -> d.against(0, 0, 1, 10, 5));
        dueFit("18 far too much", Towns.begun(heavy, 60, 1, 9, 2, 9), 20, 2, 3);
        // 5.8 by 3 and 2.9 by 2 are less than 5.8 by 2; the first is the greater one of these.
        Twins.Town uneven = Twins.then(streams(new int[] {3480, 600}, new int[] {1740, 600}),
                d -> d.against(0, 0, 1, 10, 5));
        dueFit("18 uneven", Towns.begun(uneven, 60, 1, 9, 2, 9), 20, 3, 2);
        dueFit("18 anew", Twins.then(Towns.begun(uneven, 60, 1, 9, 2, 9), d -> d.fit(0, 90)), 20, 3, 2);
    }

    /** The same, held against all rows of greens that there are. */
    private static void fitOfAllRows() {
        int[][] counts = {{700, 1800}, {333, 601}, {90, 3599}, {1200, 1250}, {5, 600}, {0, 900}};
        int[][] plans = {{1, 2}, {3, 4}, {5, 2}, {1, 2, 4}, {1, 6, 9}, {5, 10, 4}, {1, 2, 4, 8}, {3, 6, 12, 9},
            {32, 16, 5, 10}, {7, 56, 21, 42}};
        for (int[] sets : plans) {
            for (int cycle = 20; cycle <= 32; cycle++) {
                GreenDesk desk = Twins.desk(streams(counts));
                desk.plan(0, 60);
                for (int bits : sets) {
                    desk.stage(0, bits, 0);
                }
                desk.fit(0, cycle);
                int[] best = Rows.fittest(counts, sets, cycle);
                for (int s = 0; s < sets.length; s++) {
                    Due.due("18 in " + cycle + ", green " + s, desk.green(0, s), best[s]);
                }
            }
        }
    }

    /** "They become its GREENS, CYCLE its CYCLE: true." */
    private static void fitBecomes() {
        Twins.Town town = Twins.then(two(600, 600, 2, 2), d -> d.fit(0, 30));
        Twins.is("18 its cycle isn't above", town, d -> d.take(0, 30), 1);
        Twins.is("18 its cycle isn't below", town, d -> d.take(0, 29), 0);
        Twins.is("18 its cycle", Twins.then(town, d -> d.take(0, 0)), d -> d.told(0, 0), 30);
        Twins.is("18 its green", Twins.then(town, d -> d.take(0, 0)), d -> d.told(0, 20), 13);
        Twins.is("18 one stage more", town, d -> d.stage(0, 1, 7), 2);
        Twins.Town taken = Twins.then(Towns.ofCrossing(0, 3), desk -> {
            Towns.begin(desk, 0, 60, 1, 9, 2, 9);
            desk.fit(0, 50);
        });
        Twins.is("18 the taken one stays", taken, d -> d.told(0, 0), 40);
        Twins.is("18 and its green", taken, d -> d.told(0, 20), 18);
    }

    /** "False, doing nothing: as share()": none is begun, less than 2 STAGES. */
    private static void fitWithout() {
        Twins.Town one = Towns.ofQuiet(1);
        Twins.no("18 none is begun", one, d -> d.fit(0, 60));
        Twins.no("18 one is taken", Towns.ofCrossing(100, 0), d -> d.fit(0, 60));
        Twins.no("18 no stage", Towns.begun(one, 60), d -> d.fit(0, 50));
        Twins.no("18 one stage", Towns.begun(one, 60, 1, 60), d -> d.fit(0, 50));
        Twins.no("18 without streams", Towns.begun(Towns.ofQuiet(0), 60), d -> d.fit(0, 50));
        Twins.yes("18 two stages", Towns.begun(one, 60, 1, 0, 1, 0), d -> d.fit(0, 50));
        // share() is NONE here, but there are greens that add up.
        Twins.yes("18 more than there is green for", two(1800, 1800, 1, 1), d -> d.fit(0, 50));
    }
}
