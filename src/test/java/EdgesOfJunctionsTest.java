/**
 * The edges of Terms 1 and of promises 2 to 9: junction, stream, against, yields, street, sets,
 * set, goes. Each function asks for the sentence that stands above it.
 */
public final class EdgesOfJunctionsTest {
    private static final int NONE = GreenDesk.NONE;
    private static final int STREAM = 0;
    private static final int TURN = 1;
    private static final int WALK = 2;
    private static final int BUS = 3;
    private static final int LEAST_INT = Integer.MIN_VALUE;
    private static final int MOST_INT = Integer.MAX_VALUE;

    private static final Twins.Town ONE = Towns.ofQuiet(1);
    private static final Twins.Town TWO = Towns.ofQuiet(2);
    private static final Twins.Town BARE = Towns.ofQuiet(0);
    private static final Twins.Town PAIR = EdgesOfJunctionsTest::layPair;

    public static void main(String[] args) {
        junctionsUpToEight();
        junctionsAtSecondNought();
        streamsUpToEight();
        kinds();
        counts();
        rates();
        ratesNotAsked();
        leasts();
        leastsHeldToMore();
        streamsWithoutPlan();
        streamsAtSecondNought();
        againstSeconds();
        againstAlike();
        againstWithoutPlan();
        atFirstNoneIsAgainst();
        yieldsByKind();
        yieldsOnlyIfAgainst();
        yieldsOnce();
        yieldsWithoutPlan();
        nothingOfAgainstHolds();
        streetTimes();
        streetRooms();
        streetToAnotherJunction();
        streetsOnce();
        streetsAtSecondNought();
        setsWithoutStreams();
        setsEmptyAndFull();
        setNumbers();
        goesAtTheEdges();
        Due.end();
    }

    private static Twins.Town junctions(int n) {
        return desk -> {
            for (int k = 0; k < n; k++) {
                desk.junction();
            }
        };
    }

    /** Two junctions of two streams each, to which one comes at each second. */
    private static void layPair(GreenDesk desk) {
        for (int k = 0; k < 2; k++) {
            desk.junction();
            desk.stream(k, STREAM, 3600, 3600, 4);
            desk.stream(k, STREAM, 3600, 3600, 4);
        }
    }

    /** "JUNCTIONS, up to 8"; "A junction more: its number; NONE: there are 8". */
    private static void junctionsUpToEight() {
        for (int n = 0; n < 8; n++) {
            Twins.is("2 behind " + n, junctions(n), GreenDesk::junction, n);
        }
        Twins.none("2 there are 8", junctions(8), GreenDesk::junction);
        Twins.is("2 the eighth is there", junctions(8), desk -> desk.sets(7), 0);
        Twins.is("2 the eighth has streams", junctions(8), desk -> desk.stream(7, 0, 0, 600, 4), 0);
        Twins.is("2 eight", Twins.then(junctions(8), GreenDesk::junction), desk -> desk.count(0), 8);
    }

    /** "NONE: there are 8, or SECOND isn't 0." */
    private static void junctionsAtSecondNought() {
        Twins.is("2 behind run(0)", Twins.then(ONE, d -> d.run(0)), GreenDesk::junction, 1);
        Twins.is("2 behind a refused run", Twins.then(ONE, d -> d.run(301)), GreenDesk::junction, 1);
        Twins.none("2 behind run(1)", Twins.then(ONE, d -> d.run(1)), GreenDesk::junction);
        Twins.none("2 behind none and run(1)", desk -> desk.run(1), GreenDesk::junction);
    }

    /** "each with up to 8 STREAMS"; "NONE, doing nothing: .. it has 8". */
    private static void streamsUpToEight() {
        for (int n = 0; n < 8; n++) {
            Twins.is("3 behind " + n, Towns.ofQuiet(n), d -> d.stream(0, STREAM, 9, 900, 9), n);
        }
        Twins.Town full = Twins.then(Towns.ofQuiet(8), GreenDesk::junction);
        Twins.none("3 it has 8", full, d -> d.stream(0, STREAM, 9, 900, 9));
        Twins.is("3 another one has none", full, d -> d.stream(1, STREAM, 9, 900, 9), 0);
    }

    private static void streamTaken(String what, int kind, int count, int rate, int least) {
        Twins.is(what, ONE, d -> d.stream(0, kind, count, rate, least), 1);
    }

    private static void streamRefused(String what, int kind, int count, int rate, int least) {
        Twins.none(what, ONE, d -> d.stream(0, kind, count, rate, least));
    }

    private static long streamTold(int what, int kind, int count, int rate, int least) {
        GreenDesk desk = Twins.desk(ONE);
        desk.stream(0, kind, count, rate, least);
        return desk.queue(0, 1, what);
    }

    /** "of a KIND: 0 STREAM, 1 TURN, 2 WALK, 3 BUS". */
    private static void kinds() {
        for (int kind = STREAM; kind <= BUS; kind++) {
            streamTaken("3 kind " + kind, kind, 100, 900, 9);
            Due.due("3 is of kind " + kind, streamTold(7, kind, 100, 900, 9), kind);
        }
        for (int kind : new int[] {-1, 4, LEAST_INT, MOST_INT}) {
            streamRefused("3 kind " + kind, kind, 100, 900, 9);
        }
    }

    /** "a COUNT (0 to 3,600 an hour)". */
    private static void counts() {
        for (int kind = STREAM; kind <= BUS; kind++) {
            for (int count : new int[] {0, 1, 3599, 3600}) {
                streamTaken("3 count " + count, kind, count, 900, 9);
                Due.due("3 has count " + count, streamTold(10, kind, count, 900, 9), count);
            }
            for (int count : new int[] {-1, 3601, LEAST_INT, MOST_INT}) {
                streamRefused("3 count " + count, kind, count, 900, 9);
            }
        }
    }

    /** "a RATE (600 to 3,600 an hour". */
    private static void rates() {
        for (int kind = STREAM; kind <= TURN; kind++) {
            for (int rate : new int[] {600, 601, 3599, 3600}) {
                streamTaken("3 rate " + rate, kind, 100, rate, 9);
                Due.due("3 has rate " + rate, streamTold(8, kind, 100, rate, 9), rate);
            }
            for (int rate : new int[] {0, 599, 3601, LEAST_INT, MOST_INT}) {
                streamRefused("3 rate " + rate, kind, 100, rate, 9);
            }
        }
    }

    /** "of a WALK 3,600, of a BUS 1,200, whatever is told: it isn't asked". */
    private static void ratesNotAsked() {
        for (int rate : new int[] {LEAST_INT, -1, 0, 599, 600, 1200, 3600, 3601, MOST_INT}) {
            streamTaken("3 a walk told " + rate, WALK, 100, rate, 9);
            streamTaken("3 a bus told " + rate, BUS, 100, rate, 9);
            Due.due("3 a walk's rate, told " + rate, streamTold(8, WALK, 100, rate, 9), 3600);
            Due.due("3 a bus's rate, told " + rate, streamTold(8, BUS, 100, rate, 9), 1200);
        }
    }

    /** "a LEAST green (4 to 30 seconds". */
    private static void leasts() {
        for (int kind = STREAM; kind <= BUS; kind++) {
            streamTaken("3 least 4", kind, 100, 900, 4);
            streamTaken("3 least 30", kind, 100, 900, 30);
            for (int least : new int[] {3, 31, 0, -1, LEAST_INT, MOST_INT}) {
                streamRefused("3 least " + least + " of kind " + kind, kind, 100, 900, least);
            }
        }
    }

    /** "of a TURN at least 5, of a WALK at least 8: what is below is held to that". */
    private static void leastsHeldToMore() {
        for (int least = 4; least <= 30; least++) {
            Due.due("3 of a stream " + least, streamTold(9, STREAM, 0, 900, least), least);
            Due.due("3 of a bus " + least, streamTold(9, BUS, 0, 900, least), least);
            Due.due("3 of a turn " + least, streamTold(9, TURN, 0, 900, least), least < 5 ? 5 : least);
            Due.due("3 of a walk " + least, streamTold(9, WALK, 0, 900, least), least < 8 ? 8 : least);
        }
    }

    /** "NONE, doing nothing: .. it has .. a PLAN (begun or TAKEN)". */
    private static void streamsWithoutPlan() {
        Twins.Town refused = Twins.then(ONE, d -> d.plan(0, 19));
        Twins.is("3 a plan was refused", refused, d -> d.stream(0, 0, 9, 900, 9), 1);
        Twins.none("3 begun", begun(ONE), d -> d.stream(0, 0, 9, 900, 9));
        Twins.none("3 taken", Towns.ofCrossing(0, 0), d -> d.stream(0, 0, 9, 900, 9));
        Twins.Town other = Twins.then(begun(ONE), GreenDesk::junction);
        Twins.is("3 another one's plan", other, d -> d.stream(1, 0, 9, 900, 9), 0);
    }

    private static Twins.Town begun(Twins.Town town) {
        return Twins.then(town, d -> d.plan(0, 60));
    }

    /** "NONE, doing nothing: .. or SECOND isn't 0." */
    private static void streamsAtSecondNought() {
        Twins.is("3 behind run(0)", Twins.then(ONE, d -> d.run(0)), d -> d.stream(0, 0, 9, 900, 9), 1);
        Twins.none("3 behind run(1)", Twins.then(ONE, d -> d.run(1)), d -> d.stream(0, 0, 9, 900, 9));
    }

    /** The seconds that a plan of two streams alone has behind the first and behind the second. */
    private static void dueBetweens(String what, Twins.Town town, int there, int back) {
        GreenDesk desk = Twins.desk(town);
        desk.plan(0, 90);
        desk.stage(0, 1, 40);
        desk.stage(0, 2, 50 - there - back);
        Due.due(what, desk.take(0, 0), 0);
        Due.due(what + ", there", desk.told(0, 30), there);
        Due.due(what + ", back", desk.told(0, 31), back);
    }

    /** "the seconds from i's end to j's beginning (1 to 20), and back"; "False, doing nothing". */
    private static void againstSeconds() {
        for (int seconds : new int[] {1, 2, 19, 20}) {
            Twins.yes("4 there " + seconds, TWO, d -> d.against(0, 0, 1, seconds, 5));
            Twins.yes("4 back " + seconds, TWO, d -> d.against(0, 0, 1, 5, seconds));
            dueBetweens("4 there is " + seconds, against(0, 1, seconds, 5), seconds, 5);
            dueBetweens("4 back is " + seconds, against(0, 1, 5, seconds), 5, seconds);
            dueBetweens("4 from 1 to 0 is " + seconds, against(1, 0, seconds, 5), 5, seconds);
        }
        for (int seconds : new int[] {0, 21, -1, LEAST_INT, MOST_INT}) {
            Twins.no("4 there " + seconds, TWO, d -> d.against(0, 0, 1, seconds, 5));
            Twins.no("4 back " + seconds, TWO, d -> d.against(0, 0, 1, 5, seconds));
        }
    }

    private static Twins.Town against(int i, int j, int there, int back) {
        return Twins.then(TWO, d -> d.against(0, i, j, there, back));
    }

    /** "False, doing nothing: not as told, alike". */
    private static void againstAlike() {
        Twins.Town full = Towns.ofQuiet(8);
        for (int i = 0; i < 8; i++) {
            int alike = i;
            Twins.no("4 alike " + i, full, d -> d.against(0, alike, alike, 5, 5));
        }
        Twins.yes("4 the first and the last", full, d -> d.against(0, 0, 7, 5, 5));
    }

    /** "False, doing nothing: .. it has a PLAN (begun or TAKEN)." */
    private static void againstWithoutPlan() {
        Twins.no("4 begun", begun(TWO), d -> d.against(0, 0, 1, 5, 5));
        Twins.no("4 taken", Towns.ofCrossing(0, 0), d -> d.against(0, 0, 1, 5, 5));
        Twins.no("4 taken and run", Towns.UNDER_WAY, d -> d.against(1, 0, 2, 5, 5));
        // The sentence doesn't name the SECOND.
        Twins.yes("4 behind a second", Twins.then(TWO, d -> d.run(1)), d -> d.against(0, 0, 1, 5, 5));
    }

    /** "(at first no two are)". */
    private static void atFirstNoneIsAgainst() {
        Twins.yes("4 all eight together", Towns.ofQuiet(8), d -> d.goes(0, 255));
        dueBetweens("4 no seconds at first", TWO, 0, 0);
    }

    private static Twins.Town opposed(int kind0, int kind1) {
        return desk -> {
            desk.junction();
            desk.stream(0, kind0, 0, 900, 4);
            desk.stream(0, kind1, 0, 900, 4);
            desk.against(0, 0, 1, 6, 7);
        };
    }

    /** "A TURN may YIELD to a STREAM that it is AGAINST and that is no TURN". */
    private static void yieldsByKind() {
        for (int i = STREAM; i <= BUS; i++) {
            for (int j = STREAM; j <= BUS; j++) {
                String kinds = "5 of kind " + i + " to " + j;
                if (i == TURN && j != TURN) {
                    Twins.yes(kinds, opposed(i, j), d -> d.yields(0, 0, 1));
                    Twins.yes(kinds + ", told as 1 and 0", opposed(j, i), d -> d.yields(0, 1, 0));
                } else {
                    Twins.no(kinds, opposed(i, j), d -> d.yields(0, 0, 1));
                }
            }
        }
    }

    private static void layTurns(GreenDesk desk) {
        desk.junction();
        desk.stream(0, TURN, 0, 900, 4);
        desk.stream(0, STREAM, 0, 900, 4);
        desk.stream(0, STREAM, 0, 900, 4);
        desk.stream(0, TURN, 0, 900, 4);
        desk.against(0, 0, 1, 6, 7);
        desk.against(0, 3, 2, 6, 7);
    }

    /** "to a STREAM that it is AGAINST": others of the junction may be. */
    private static void yieldsOnlyIfAgainst() {
        Twins.no("5 not against", EdgesOfJunctionsTest::layTurns, d -> d.yields(0, 0, 2));
        Twins.no("5 not against", EdgesOfJunctionsTest::layTurns, d -> d.yields(0, 3, 1));
        Twins.no("5 to itself", EdgesOfJunctionsTest::layTurns, d -> d.yields(0, 0, 0));
        Twins.yes("5 against", EdgesOfJunctionsTest::layTurns, d -> d.yields(0, 0, 1));
        Twins.yes("5 told against as the second", EdgesOfJunctionsTest::layTurns, d -> d.yields(0, 3, 2));
    }

    private static Twins.Town yielding(int other) {
        return Twins.then(opposed(TURN, other), d -> d.yields(0, 0, 1));
    }

    /** "False, doing nothing: .. it does". */
    private static void yieldsOnce() {
        Twins.no("5 it does", yielding(STREAM), d -> d.yields(0, 0, 1));
        Twins.no("5 nor the other way round", yielding(STREAM), d -> d.yields(0, 1, 0));
    }

    /** "False, doing nothing: .. or it has a PLAN (begun or TAKEN)." */
    private static void yieldsWithoutPlan() {
        Twins.Town turn = opposed(TURN, STREAM);
        Twins.no("5 begun", begun(turn), d -> d.yields(0, 0, 1));
        Twins.Town taken = Twins.then(turn, d -> {
            d.plan(0, 40);
            d.stage(0, 1, 12);
            d.stage(0, 2, 15);
            d.take(0, 0);
        });
        Twins.is("5 it is taken", taken, d -> d.told(0, 0), 40);
        Twins.no("5 taken", taken, d -> d.yields(0, 0, 1));
        Twins.yes("5 behind a second", Twins.then(turn, d -> d.run(1)), d -> d.yields(0, 0, 1));
    }

    /** "these two may go together all the same (all told of AGAINST does not hold for them)". */
    private static void nothingOfAgainstHolds() {
        Twins.no("5 against, together", opposed(TURN, BUS), d -> d.goes(0, 3));
        Twins.yes("5 yielding, together", yielding(BUS), d -> d.goes(0, 3));
        dueBetweens("5 no betweens", yielding(BUS), 0, 0);
        Twins.Town anew = Twins.then(yielding(BUS), d -> d.against(0, 0, 1, 9, 9));
        dueBetweens("5 nor behind against() told anew", anew, 0, 0);
        Twins.Town back = Twins.then(yielding(BUS), d -> d.against(0, 1, 0, 9, 9));
        dueBetweens("5 nor told anew the other way", back, 0, 0);
        Twins.yes("5 together then, too", back, d -> d.goes(0, 3));
    }

    private static Twins.Town street(int time, int room) {
        return Twins.then(PAIR, desk -> {
            desk.street(0, 0, 1, 1, time, room);
            Towns.takeAlways(desk, 0, 1);
        });
    }

    /** "TIME (1 to 60 seconds)". */
    private static void streetTimes() {
        for (int time : new int[] {1, 2, 59, 60}) {
            Twins.yes("6 time " + time, PAIR, d -> d.street(0, 0, 1, 0, time, 5));
            Twins.is("6 not ahead of " + time, Twins.then(street(time, 60), d -> d.run(time)),
                    d -> d.queue(1, 1, 1), time);
            Twins.is("6 behind " + time, Twins.then(street(time, 60), d -> d.run(time + 1)),
                    d -> d.queue(1, 1, 1), time + 2);
        }
        for (int time : new int[] {0, 61, -1, LEAST_INT, MOST_INT}) {
            Twins.no("6 time " + time, PAIR, d -> d.street(0, 0, 1, 0, time, 5));
        }
    }

    /** "ROOM (1 to 60)". */
    private static void streetRooms() {
        for (int room : new int[] {1, 2, 59, 60}) {
            Twins.yes("6 room " + room, PAIR, d -> d.street(0, 0, 1, 0, 5, room));
        }
        for (int room : new int[] {0, 61, -1, LEAST_INT, MOST_INT}) {
            Twins.no("6 room " + room, PAIR, d -> d.street(0, 0, 1, 0, 5, room));
        }
    }

    /** "A STREET from a STREAM to another junction's". */
    private static void streetToAnotherJunction() {
        for (int i = 0; i < 2; i++) {
            int end = i;
            Twins.no("6 to its own " + i, PAIR, d -> d.street(0, 0, 0, end, 5, 5));
            Twins.yes("6 to another's " + i, PAIR, d -> d.street(0, 0, 1, end, 5, 5));
            Twins.yes("6 from a higher number " + i, PAIR, d -> d.street(1, end, 0, 0, 5, 5));
        }
    }

    /** "False, doing nothing: .. it has one": one may come to an end by several, but leave by one. */
    private static void streetsOnce() {
        Twins.Town one = Twins.then(PAIR, d -> d.street(0, 0, 1, 0, 5, 5));
        Twins.no("6 the same again", one, d -> d.street(0, 0, 1, 0, 5, 5));
        Twins.no("6 to another end", one, d -> d.street(0, 0, 1, 1, 6, 6));
        Twins.yes("6 another one to that end", one, d -> d.street(0, 1, 1, 0, 5, 5));
        Twins.yes("6 back from its end", one, d -> d.street(1, 0, 0, 0, 5, 5));
    }

    /** "False, doing nothing: .. or SECOND isn't 0." */
    private static void streetsAtSecondNought() {
        Twins.yes("6 behind run(0)", Twins.then(PAIR, d -> d.run(0)), d -> d.street(0, 0, 1, 0, 5, 5));
        Twins.no("6 behind run(1)", Twins.then(PAIR, d -> d.run(1)), d -> d.street(0, 0, 1, 0, 5, 5));
        // The sentence doesn't name a PLAN.
        Twins.yes("6 with a plan", Towns.STILL, d -> d.street(1, 3, 2, 3, 5, 5));
    }

    /** "(0 without STREAMS)". */
    private static void setsWithoutStreams() {
        Twins.still("7 without streams", BARE, d -> d.sets(0), 0);
        Twins.none("8 without streams", BARE, d -> d.set(0, 0));
    }

    private static Twins.Town groups(int... sizes) {
        return desk -> {
            desk.junction();
            int from = 0;
            for (int size : sizes) {
                for (int i = from; i < from + size; i++) {
                    desk.stream(0, STREAM, 0, 900, 4);
                    for (int j = from; j < i; j++) {
                        desk.against(0, i, j, 1, 1);
                    }
                }
                from += size;
            }
        };
    }

    /** "a greatest SET is none to which one more could come": from one to the most there can be. */
    private static void setsEmptyAndFull() {
        Twins.still("7 one stream", groups(1), d -> d.sets(0), 1);
        Twins.still("7 eight that all may", groups(1, 1, 1, 1, 1, 1, 1, 1), d -> d.sets(0), 1);
        Twins.is("8 eight that all may", groups(1, 1, 1, 1, 1, 1, 1, 1), d -> d.set(0, 0), 255);
        Twins.still("7 eight of which none may", groups(8), d -> d.sets(0), 8);
        Twins.still("7 the most for eight", groups(3, 3, 2), d -> d.sets(0), 18);
    }

    /** "Its k-th greatest SET, by numbers rising; NONE: none such." */
    private static void setNumbers() {
        Twins.Town most = groups(3, 3, 2);
        GreenDesk desk = Twins.desk(most);
        int k = 0;
        for (int last = 64; last <= 128; last *= 2) {
            for (int middle = 8; middle <= 32; middle *= 2) {
                for (int first = 1; first <= 4; first *= 2) {
                    Due.due("8 set " + k, desk.set(0, k), first + middle + last);
                    k++;
                }
            }
        }
        for (int none : new int[] {-1, 18, 255, LEAST_INT, MOST_INT}) {
            Twins.none("8 set " + none, most, d -> d.set(0, none));
        }
        Twins.is("8 the first of one", groups(1), d -> d.set(0, 0), 1);
        Twins.none("8 one has no second", groups(1), d -> d.set(0, 1));
        for (int n = 0; n < 8; n++) {
            int alone = n;
            Twins.is("8 each alone, " + n, groups(8), d -> d.set(0, alone), 1 << n);
        }
        Twins.none("8 each alone, a ninth", groups(8), d -> d.set(0, 8));
    }

    /** "Whether a row of bits is a SET of a junction (0 is one)." */
    private static void goesAtTheEdges() {
        Twins.yes("9 0 without streams", BARE, d -> d.goes(0, 0));
        Twins.no("9 1 without streams", BARE, d -> d.goes(0, 1));
        for (int n = 1; n <= 8; n++) {
            Twins.Town town = Towns.ofQuiet(n);
            int all = (1 << n) - 1;
            Twins.yes("9 0 of " + n, town, d -> d.goes(0, 0));
            Twins.yes("9 all of " + n, town, d -> d.goes(0, all));
            Twins.no("9 one beyond " + n, town, d -> d.goes(0, all + 1));
            Twins.no("9 all and one beyond " + n, town, d -> d.goes(0, 2 * all + 1));
            Twins.no("9 the highest bit", town, d -> d.goes(0, LEAST_INT));
            Twins.no("9 the highest bit and all of " + n, town, d -> d.goes(0, LEAST_INT | all));
            Twins.no("9 all bits", town, d -> d.goes(0, -1));
            Twins.no("9 all but the highest", town, d -> d.goes(0, MOST_INT));
        }
        Twins.Town two = against(0, 1, 1, 1);
        Twins.yes("9 one of two against", two, d -> d.goes(0, 1));
        Twins.yes("9 the other one", two, d -> d.goes(0, 2));
        Twins.no("9 both", two, d -> d.goes(0, 3));
    }
}
