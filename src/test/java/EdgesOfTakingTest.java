/**
 * The edges of what a plan has to be to be taken, and of what is told of it then: LEAST, AGAINST
 * and the BETWEENS of Terms 2, and promises 13 to 16: why, told, offset, tear.
 */
public final class EdgesOfTakingTest {
    private static final int NONE = GreenDesk.NONE;
    private static final int LEAST_INT = Integer.MIN_VALUE;
    private static final int MOST_INT = Integer.MAX_VALUE;
    private static final int[] OTHERS = {-1, 3, 4, 10, LEAST_INT, MOST_INT};

    private static final Twins.Town CROSSING = Towns.ofCrossing(300, 5);

    public static void main(String[] args) {
        leastOfEachKind();
        leastRoundTheCycle();
        leastWheneverItBegins();
        leastOfAlwaysGreen();
        leastWithBetween();
        leastInNoStage();
        whyOfLeast();
        soManySeconds();
        soManySecondsRound();
        inThisOrder();
        whyOfAgainst();
        whyWithout();
        whyOfTheLatest();
        betweenBehindTheLast();
        betweenOfThoseAlone();
        greenInBetween();
        toldNumbers();
        toldWithout();
        offsets();
        offsetWithout();
        tears();
        tearsWithout();
        goneTillTake();
        Due.end();
    }

    private static void dueTake(String what, Twins.Town town, int want, int... why) {
        GreenDesk desk = Twins.desk(town);
        Due.due(what, desk.take(0, 3), want);
        for (int k = 0; k < why.length; k++) {
            Due.due(what + ", why " + k, desk.why(k), why[k]);
        }
    }

    /** A stream of a kind with a least green, and three others that need 4 seconds. */
    private static Twins.Town withLeast(int kind, int least) {
        return desk -> {
            desk.junction();
            desk.stream(0, kind, 0, 900, least);
            for (int i = 1; i < 4; i++) {
                desk.stream(0, 0, 0, 900, 4);
            }
        };
    }

    /** "each STREAM that is in some STAGE is green at least its LEAST seconds". */
    private static void leastOfEachKind() {
        int[][] rows = {{0, 4, 4}, {1, 4, 5}, {2, 4, 8}, {3, 4, 4}, {0, 30, 30}, {1, 30, 30}, {2, 9, 9}, {3, 5, 5}};
        for (int[] row : rows) {
            Twins.Town town = withLeast(row[0], row[1]);
            int least = row[2];
            String what = "12 kind " + row[0] + ", least " + row[1];
            dueTake(what, Towns.begun(town, 60, 1, least, 2, 60 - least), 0);
            dueTake(what + ", one less", Towns.begun(town, 60, 1, least - 1, 2, 61 - least), 5, 0, 0, NONE);
            dueTake(what + ", in the second stage", Towns.begun(town, 60, 2, 60 - least, 1, least), 0);
            dueTake(what + ", there one less", Towns.begun(town, 60, 2, 61 - least, 1, least - 1), 5,
                    61 - least, 0, NONE);
        }
    }

    /** "seconds one behind the other .. (round the CYCLE". */
    private static void leastRoundTheCycle() {
        Twins.Town town = withLeast(0, 10);
        dueTake("12 nine and one", Towns.begun(town, 30, 1, 9, 2, 20, 1, 1), 0);
        dueTake("12 eight and one", Towns.begun(town, 30, 1, 8, 2, 21, 1, 1), 5, 29, 0, NONE);
        dueTake("12 one and nine", Towns.begun(town, 30, 1, 1, 2, 20, 1, 9), 0);
        dueTake("12 one and eight", Towns.begun(town, 30, 1, 1, 2, 21, 1, 8), 5, 22, 0, NONE);
    }

    /** "whenever it begins". */
    private static void leastWheneverItBegins() {
        Twins.Town town = withLeast(0, 10);
        dueTake("12 twice", Towns.begun(town, 40, 1, 10, 2, 10, 1, 10, 4, 10), 0);
        dueTake("12 the first is short", Towns.begun(town, 40, 1, 9, 2, 10, 1, 11, 4, 10), 5, 0, 0, NONE);
        dueTake("12 the second is short", Towns.begun(town, 40, 1, 11, 2, 10, 1, 9, 4, 10), 5, 21, 0, NONE);
        dueTake("12 two stages one behind the other", Towns.begun(town, 40, 1, 5, 1, 5, 2, 10, 4, 20), 0);
    }

    /** "one that is always green has it". */
    private static void leastOfAlwaysGreen() {
        Twins.Town town = withLeast(0, 30);
        dueTake("12 always, in 20 seconds", Towns.begun(town, 20, 1, 10, 3, 10), 0);
        dueTake("12 but for one", Towns.begun(town, 29, 1, 28, 8, 1), 5, 0, 0, NONE);
        Twins.Town beside = Towns.begun(town, 34, 3, 30, 2, 4);
        dueTake("12 thirty of 34", beside, 0);
        dueTake("12 29 of 33", Towns.begun(town, 33, 3, 29, 2, 4), 5, 0, 0, NONE);
    }

    /** "A STREAM is green .. in a BETWEEN if both STAGES around it have it": its seconds count. */
    private static void leastWithBetween() {
        Twins.Town town = Twins.then(withLeast(0, 14), d -> d.against(0, 1, 2, 3, 5));
        dueTake("12 4, 3 and 7", Towns.begun(town, 30, 3, 4, 5, 7, 8, 16), 0);
        dueTake("12 4, 3 and 6", Towns.begun(town, 30, 3, 4, 5, 6, 8, 17), 5, 0, 0, NONE);
        dueTake("12 round, 5, 5 and 4", Towns.begun(town, 31, 3, 4, 8, 17, 5, 5), 0);
        dueTake("12 round, 4, 5 and 4", Towns.begun(town, 31, 3, 4, 8, 18, 5, 4), 5, 4 + 18, 0, NONE);
    }

    /** "each STREAM that is in some STAGE": others aren't asked. */
    private static void leastInNoStage() {
        dueTake("12 in no stage", Towns.begun(withLeast(2, 30), 20, 2, 10, 4, 10), 0);
    }

    /** "of 5 that at which the STREAM begins; the first such"; "of several the least"; "NONE of 5". */
    private static void whyOfLeast() {
        Twins.Town town = Towns.ofQuiet(4);
        dueTake("13 two at 7", Towns.begun(town, 20, 1, 7, 2 + 4, 3, 8, 10), 5, 7, 1, NONE);
        dueTake("13 4 at 7, 2 at 10", Towns.begun(town, 20, 1, 7, 4, 3, 2, 3, 8, 7), 5, 7, 2, NONE);
        dueTake("13 the highest at 0", Towns.begun(town, 20, 8, 3, 4, 3, 2, 3, 1, 11), 5, 0, 3, NONE);
        dueTake("13 at the last second", Towns.begun(town, 20, 1, 7, 2, 12, 4, 1), 5, 19, 2, NONE);
    }

    /**
     * 0 goes, then 2 alone, then 1, beside 2, which is always green: so the seconds from 0's end
     * to 1's beginning are the second stage's.
     */
    private static Twins.Town apart(int there, int green) {
        Twins.Town town = Twins.then(Towns.ofQuiet(3), d -> d.against(0, 0, 1, there, 1));
        return Towns.begun(town, 60, 1 + 4, 10, 4, green, 2 + 4, 60 - 10 - green - 1);
    }

    /** "nor is j at one of the so many seconds behind a second at which i is". */
    private static void soManySeconds() {
        for (int there : new int[] {2, 3, 19, 20}) {
            dueTake("12 " + there, apart(there, there), 0);
            dueTake("12 one less than " + there, apart(there, there - 1), 6, 10 + there - 1, 0, 1);
        }
        dueTake("12 just 1", apart(1, 1), 0);
        dueTake("12 1 for 20", apart(20, 1), 6, 11, 0, 1);
    }

    /** "all seconds of a CYCLE, round". */
    private static void soManySecondsRound() {
        for (int there : new int[] {2, 3, 19, 20}) {
            Twins.Town town = Twins.then(Towns.ofQuiet(3), d -> d.against(0, 0, 1, there, 1));
            dueTake("12 round, " + there, Towns.begun(town, 60, 4, there, 6, 10, 5, 49 - there), 0);
            dueTake("12 round, one less than " + there,
                    Towns.begun(town, 60, 4, there - 1, 6, 10, 5, 50 - there), 6, there - 1, 0, 1);
        }
        // From 1's end at the cycle's end, and from its last second but one.
        Twins.Town both = Twins.then(Towns.ofQuiet(3), d -> d.against(0, 0, 1, 1, 20));
        dueTake("12 at second 0", Towns.begun(both, 60, 5, 20, 6, 20, 4, 19), 6, 0, 1, 0);
        dueTake("12 not at second 0", Towns.begun(both, 61, 5, 20, 6, 20, 4, 20), 0);
    }

    /** "(in this order": there isn't back. */
    private static void inThisOrder() {
        Twins.Town town = Twins.then(Towns.ofQuiet(3), d -> d.against(0, 0, 1, 5, 15));
        dueTake("12 5 there, 15 back", Towns.begun(town, 60, 5, 10, 4, 5, 6, 30, 4, 15), 0);
        dueTake("12 4 there", Towns.begun(town, 60, 5, 10, 4, 4, 6, 31, 4, 15), 6, 14, 0, 1);
        dueTake("12 14 back", Towns.begun(town, 60, 5, 10, 4, 5, 6, 31, 4, 14), 6, 0, 1, 0);
        dueTake("12 15 there, 5 back", Towns.begun(town, 60, 6, 10, 4, 5, 5, 30, 4, 15), 6, 15, 1, 0);
    }

    /** "For 6 the second is .. : the first such, there the least j, for it the least i." */
    private static void whyOfAgainst() {
        // 0 and 1 go, then 4 alone, then 2 and 3: each of these is against each of those.
        Twins.Town town = Twins.then(Towns.ofQuiet(5), desk -> {
            desk.against(0, 0, 2, 9, 1);
            desk.against(0, 0, 3, 20, 1);
            desk.against(0, 1, 2, 9, 1);
            desk.against(0, 1, 3, 9, 1);
        });
        dueTake("13 the least j, the least i", Towns.begun(town, 50, 3, 10, 16, 8, 12, 31), 6, 18, 0, 2);
        dueTake("13 the least j there", Towns.begun(town, 50, 3, 10, 16, 9, 12, 30), 6, 19, 0, 3);
        dueTake("13 the least i for it", Towns.begun(town, 50, 2, 10, 16, 8, 12, 31), 6, 18, 1, 2);
        dueTake("13 the first second", Towns.begun(town, 50, 3, 10, 16, 8, 8, 10, 4, 21), 6, 18, 0, 3);
    }

    /** "NONE without, or for others." */
    private static void whyWithout() {
        for (int what = 0; what < 3; what++) {
            int asked = what;
            Twins.none("13 on a new desk", desk -> { }, d -> d.why(asked));
            Twins.none("13 behind a plan taken", CROSSING, d -> d.why(asked));
        }
        Twins.Town told4 = Twins.then(Towns.begun(CROSSING, 30, 1, 9, 2, 9), d -> d.take(0, 0));
        Twins.none("13 behind one told 4", told4, d -> d.why(0));
        Twins.Town told5 = Twins.then(Towns.begun(CROSSING, 30, 1, 3, 2, 20), d -> d.take(0, 0));
        Twins.Town told6 = Twins.then(apart(20, 19), d -> d.take(0, 0));
        for (int other : OTHERS) {
            Twins.none("13 of 5, " + other, told5, d -> d.why(other));
            Twins.none("13 of 6, " + other, told6, d -> d.why(other));
        }
    }

    /** "Of the latest take() that told 5 or 6": others don't matter, whatever they told. */
    private static void whyOfTheLatest() {
        Twins.Town told6 = Twins.then(apart(20, 19), d -> d.take(0, 0));
        Twins.Town[] since = {
            Twins.then(told6, d -> d.take(0, 60)), Twins.then(told6, d -> d.take(7, 0)),
            Twins.then(Towns.begun(told6, 60), d -> d.take(0, 0)),
            Twins.then(Towns.begun(told6, 60, 1, 0, 1, 9), d -> d.take(0, 0)),
            Twins.then(Towns.begun(told6, 60, 1, 9, 1, 9), d -> d.take(0, 0)),
            Twins.then(Towns.begun(told6, 60, 1, 30, 1, 30), d -> d.take(0, 0)),
        };
        int[] why = {29, 0, 1};
        for (int k = 0; k < since.length; k++) {
            for (int what = 0; what < 3; what++) {
                int asked = what;
                Twins.still("13 it stays, " + k, since[k], d -> d.why(asked), why[what]);
            }
        }
        Twins.Town then5 = Twins.then(told6, desk -> {
            Towns.addQuiet(desk, 2);
            Towns.begin(desk, 1, 20, 1, 18, 2, 2);
            desk.take(1, 0);
        });
        Twins.is("13 another junction's is later", then5, d -> d.why(0), 18);
        Twins.is("13 its stream", then5, d -> d.why(1), 1);
        Twins.is("13 no j of 5 behind one of 6", then5, d -> d.why(2), NONE);
    }

    private static void dueTold(String what, Twins.Town town, int[][] told) {
        GreenDesk desk = Twins.desk(town);
        Due.due(what, desk.take(0, 0), 0);
        for (int[] each : told) {
            Due.due(what + ", told " + each[0], desk.told(0, each[0]), each[1]);
        }
    }

    private static Twins.Town gaps(int streams, int[]... gaps) {
        return Twins.then(Towns.ofQuiet(streams), desk -> {
            for (int[] gap : gaps) {
                desk.against(0, gap[0], gap[1], gap[2], gap[3]);
            }
        });
    }

    /** "Behind each STAGE comes the BETWEEN to the next one (behind the last one the first)". */
    private static void betweenBehindTheLast() {
        Twins.Town two = gaps(2, new int[] {0, 1, 1, 20});
        dueTold("14 of two", Towns.begun(two, 60, 1, 19, 2, 20), new int[][] {{3, 21}, {30, 1}, {31, 20}});
        Twins.Town four = gaps(4, new int[] {0, 1, 2, 9}, new int[] {1, 2, 3, 9}, new int[] {2, 3, 4, 9},
                new int[] {3, 0, 5, 9});
        dueTold("14 of four", Towns.begun(four, 90, 1, 19, 2, 19, 4, 19, 8, 19),
                new int[][] {{3, 14}, {30, 2}, {31, 3}, {32, 4}, {33, 5}});
        dueTold("14 the other way", Towns.begun(four, 90, 8, 13, 4, 13, 2, 13, 1, 15),
                new int[][] {{3, 36}, {30, 9}, {31, 9}, {32, 9}, {33, 9}});
    }

    /** "the greatest .. for i that is in it alone, j in the next one alone ..; 0 without". */
    private static void betweenOfThoseAlone() {
        Twins.Town town = gaps(4, new int[] {0, 1, 4, 6}, new int[] {0, 2, 7, 5}, new int[] {1, 3, 20, 20});
        dueTold("14 the greatest", Towns.begun(town, 40, 1, 15, 6, 12), new int[][] {{30, 7}, {31, 6}});
        dueTold("14 i is in both", Towns.begun(town, 60, 1 + 8, 20, 8, 20, 4, 15),
                new int[][] {{30, 0}, {31, 0}, {32, 5}});
        dueTold("14 all alike", Towns.begun(town, 40, 9, 20, 9, 20), new int[][] {{3, 0}, {30, 0}, {31, 0}});
        dueTold("14 none against", Towns.begun(town, 40, 4, 20, 8, 20), new int[][] {{3, 0}, {30, 0}, {31, 0}});
    }

    /** "green in all STAGES that have it, and in a BETWEEN if both STAGES around it have it". */
    private static void greenInBetween() {
        Twins.Town town = Towns.begun(gaps(4, new int[] {0, 1, 3, 5}), 40, 1 + 4, 16, 2 + 4 + 8, 16);
        GreenDesk desk = Twins.desk(town);
        Due.due("12 taken", desk.take(0, 0), 0);
        for (int t = 0; t < 40; t++) {
            Due.due("20 0 at " + t, desk.lamp(0, 0, t), t < 16 ? 1 : 0);
            Due.due("20 1 at " + t, desk.lamp(0, 1, t), t >= 19 && t < 35 ? 1 : 0);
            Due.due("20 2 at " + t, desk.lamp(0, 2, t), 1);
            Due.due("20 3 at " + t, desk.lamp(0, 3, t), t >= 19 && t < 35 ? 1 : 0);
        }
        Twins.Town three = Towns.begun(gaps(4, new int[] {0, 1, 3, 5}), 40, 2 + 4, 10, 8, 10, 1 + 4, 17);
        GreenDesk round = Twins.desk(three);
        Due.due("12 taken", round.take(0, 0), 0);
        for (int t = 0; t < 40; t++) {
            Due.due("20 round, 2 at " + t, round.lamp(0, 2, t), t < 10 || t >= 20 ? 1 : 0);
        }
    }

    private static Twins.Town taken(int stages) {
        int[] rows = {1, 10, 2, 11, 1, 12, 2, 13};
        int[] some = java.util.Arrays.copyOf(rows, 2 * stages);
        int sum = 0;
        for (int s = 0; s < stages; s++) {
            sum += 10 + s;
        }
        int cycle = sum;
        return Twins.then(Towns.begun(Towns.ofQuiet(2), cycle, some), d -> d.take(0, 2));
    }

    /** "10 + s STAGE s's SET, 20 + s its GREEN, 30 + s the BETWEEN .. NONE where there is none such." */
    private static void toldNumbers() {
        for (int stages = 2; stages <= 4; stages++) {
            Twins.Town town = taken(stages);
            Twins.is("14 stages", town, d -> d.told(0, 2), stages);
            for (int s = 0; s < 10; s++) {
                int stage = s;
                boolean there = s < stages;
                Twins.is("14 set " + s, town, d -> d.told(0, 10 + stage), there ? 1 + s % 2 : NONE);
                Twins.is("14 green " + s, town, d -> d.told(0, 20 + stage), there ? 10 + s : NONE);
                Twins.is("14 between " + s, town, d -> d.told(0, 30 + stage), there ? 0 : NONE);
            }
            int[] others = {-1, 4, 5, 9, 40, 41, 100, -9, -10, -11, -20, -30, LEAST_INT, MOST_INT};
            for (int other : others) {
                Twins.none("14 told " + other, town, d -> d.told(0, other));
            }
        }
    }

    /** "Of a junction's PLAN that was TAKEN": NONE without. */
    private static void toldWithout() {
        for (int what : new int[] {0, 1, 2, 3, 10, 11, 20, 21, 30, 31}) {
            Twins.none("14 no plan", Towns.ofQuiet(2), d -> d.told(0, what));
            Twins.none("14 one begun", Towns.begun(Towns.ofQuiet(2), 20, 1, 10, 2, 10), d -> d.told(0, what));
        }
    }

    /** "The OFFSET of a TAKEN PLAN becomes another one .. false, doing nothing: .. outside, or it is that." */
    private static void offsets() {
        for (int offset : new int[] {0, 1, 4, 6, 38, 39}) {
            Twins.yes("15 offset " + offset, CROSSING, d -> d.offset(0, offset));
            Twins.Town other = Twins.then(CROSSING, d -> d.offset(0, offset));
            Twins.is("15 it is " + offset, other, d -> d.told(0, 1), offset);
            Twins.no("15 it is that, " + offset, other, d -> d.offset(0, offset));
            Twins.yes("15 and back", other, d -> d.offset(0, 5));
        }
        for (int offset : new int[] {-1, 40, 41, 90, LEAST_INT, MOST_INT, 5}) {
            Twins.no("15 offset " + offset, CROSSING, d -> d.offset(0, offset));
            Twins.Town run = Twins.then(CROSSING, d -> d.run(8));
            Twins.no("15 run, offset " + offset, run, d -> d.offset(0, offset));
        }
        Twins.yes("15 89 of 90", Twins.then(Towns.begun(Towns.ofQuiet(1), 90, 1, 45, 1, 45), d -> d.take(0, 0)),
                d -> d.offset(0, 89));
        Twins.no("15 20 of 20", Twins.then(Towns.begun(Towns.ofQuiet(1), 20, 1, 10, 1, 10), d -> d.take(0, 0)),
                d -> d.offset(0, 20));
        Twins.no("15 flashing, it is that", Towns.UNDER_WAY, d -> d.offset(1, 7));
        Twins.yes("15 flashing, another one", Towns.UNDER_WAY, d -> d.offset(1, 8));
    }

    /** "false, doing nothing: none such": no plan, or one that is begun alone. */
    private static void offsetWithout() {
        Twins.no("15 no plan", Towns.ofQuiet(1), d -> d.offset(0, 1));
        Twins.no("15 begun", Towns.begun(Towns.ofQuiet(1), 20, 1, 10, 1, 10), d -> d.offset(0, 1));
    }

    /** "torn behind its first n (0 to its STAGES): true"; "told() tells NONE of GREENS that are gone". */
    private static void tears() {
        for (int stages = 2; stages <= 4; stages++) {
            Twins.Town town = taken(stages);
            for (int n = 0; n <= stages; n++) {
                int first = n;
                Twins.yes("16 behind " + n + " of " + stages, town, d -> d.tear(0, first));
                Twins.Town torn = Twins.then(town, d -> d.tear(0, first));
                for (int s = 0; s < stages; s++) {
                    int stage = s;
                    Twins.still("16 green " + s, torn, d -> d.told(0, 20 + stage), s < n ? 10 + s : NONE);
                    Twins.is("16 its set", torn, d -> d.told(0, 10 + stage), 1 + s % 2);
                    Twins.is("16 its between", torn, d -> d.told(0, 30 + stage), 0);
                    Twins.is("16 its lamp", torn, d -> d.lamp(0, stage % 2, 2 + 10 * stage + stage), 1);
                }
                Twins.is("16 the stages", torn, d -> d.told(0, 2), stages);
                Twins.is("16 the offset", torn, d -> d.told(0, 1), 2);
            }
            for (int n : new int[] {-1, stages + 1, 5, LEAST_INT, MOST_INT}) {
                Twins.no("16 behind " + n + " of " + stages, town, d -> d.tear(0, n));
            }
        }
    }

    /** "of a TAKEN PLAN .. false, doing nothing: none such." */
    private static void tearsWithout() {
        Twins.no("16 no plan", Towns.ofQuiet(1), d -> d.tear(0, 0));
        Twins.no("16 begun", Towns.begun(Towns.ofQuiet(1), 20, 1, 10, 1, 10), d -> d.tear(0, 0));
        Twins.no("16 beyond a torn one", Towns.UNDER_WAY, d -> d.tear(1, 3));
    }

    /** "they stay gone till a take()". */
    private static void goneTillTake() {
        Twins.Town torn = Twins.then(taken(3), d -> d.tear(0, 1));
        Twins.Town[] since = {
            Twins.then(torn, d -> d.tear(0, 3)), Twins.then(torn, d -> d.tear(0, 2)),
            Twins.then(torn, d -> d.offset(0, 9)), Twins.then(torn, d -> d.run(40)),
            Towns.begun(torn, 60, 1, 30, 2, 30), Twins.then(Towns.begun(torn, 60, 1, 30), d -> d.take(0, 0)),
        };
        for (int k = 0; k < since.length; k++) {
            Twins.is("16 the first stays, " + k, since[k], d -> d.told(0, 20), 10);
            Twins.still("16 the second is gone, " + k, since[k], d -> d.told(0, 21), NONE);
            Twins.still("16 the third is gone, " + k, since[k], d -> d.told(0, 22), NONE);
        }
        Twins.still("16 torn as it was", torn, d -> d.tear(0, 1) ? 1 : 0, 1);
        Twins.still("16 torn farther behind", torn, d -> d.tear(0, 2) ? 1 : 0, 1);
        Twins.is("16 torn farther ahead", Twins.then(torn, d -> d.tear(0, 0)), d -> d.told(0, 20), NONE);
        Twins.Town anew = Twins.then(Towns.begun(torn, 60, 1, 29, 2, 31), d -> d.take(0, 0));
        Twins.is("16 there behind a take()", anew, d -> d.told(0, 21), 31);
    }
}
