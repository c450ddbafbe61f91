/** The edges of promise 27: check. Each function asks for the sentence above it. */
public final class EdgesOfGuardTest {
    private static final int NONE = GreenDesk.NONE;
    private static final int LEAST_INT = Integer.MIN_VALUE;
    private static final int MOST_INT = Integer.MAX_VALUE;

    public static void main(String[] args) {
        secondsRead();
        secondsReadOnceOver();
        secondsNotRead();
        noSecondRun();
        streamNotAsked();
        atOneSecond();
        soManyAhead();
        inThisOrder();
        onlyThoseThatHeReads();
        theFirstSecond();
        turnedOff();
        thoseThatYield();
        lampsThatWereShown();
        changesNothing();
        Due.end();
    }

    /**
     * 60 seconds: 0 is green from 0 to 9, 1 from 30 to 39, 2 always; 5 seconds from 0 to 1 and 8
     * back.
     */
    private static void layApart(GreenDesk desk) {
        Towns.addQuiet(desk, 3);
        desk.against(0, 0, 1, 5, 8);
        Towns.begin(desk, 0, 60, 1 + 4, 10, 4, 20, 2 + 4, 10, 4, 20);
        Due.due("12 taken", desk.take(0, 0), 0);
    }

    private static Twins.Town apart(int seconds) {
        return Twins.then(EdgesOfGuardTest::layApart, d -> Towns.runOn(d, seconds));
    }

    /** "the latest 200 SECONDS that were run". */
    private static void secondsRead() {
        for (int run : new int[] {1, 2, 199, 200, 201, 202, 400, 500}) {
            int first = Math.max(0, run - 200);
            for (int second : new int[] {first, run - 1}) {
                Twins.is("27 of " + run + ", " + second, apart(run), d -> d.check(0, 2, second), NONE);
            }
            Twins.is("27 of " + run + ", none", apart(run), d -> d.check(0, 0, NONE), NONE);
        }
        // The first second that he reads has a lamp that is turned to green beside another one.
        Twins.is("27 the first of 200", apart(200), d -> d.check(0, 1, 0), 0);
        Twins.is("27 the first of 205", apart(205), d -> d.check(0, 1, 5), 5);
        Twins.is("27 the last of 186", apart(186), d -> d.check(0, 1, 185), 185);
    }

    /** "the latest 200 SECONDS that were run": none of the 200 ahead is taken for the next one. */
    private static void secondsReadOnceOver() {
        Twins.Town crossing = desk -> {
            Towns.addQuiet(desk, 2);
            desk.against(0, 0, 1, 3, 4);
            Towns.begin(desk, 0, 30, 1, 11, 2, 12);
            Due.due("12 taken", desk.take(0, 0), 0);
            desk.run(199);
        };
        GreenDesk desk = Twins.desk(crossing);
        for (int run = 199; run < 260; run++) {
            Due.due("27 all of " + run, desk.check(0, 0, NONE), NONE);
            Due.due("27 one more", desk.run(1), run + 1);
        }
    }

    /** "-2: .. a SECOND that he doesn't read". */
    private static void secondsNotRead() {
        for (int run : new int[] {1, 199, 200, 201, 202, 400, 500}) {
            for (int second : new int[] {run - 201, run, run + 1, -2, LEAST_INT, MOST_INT}) {
                if (second != NONE) {
                    Twins.still("27 of " + run + ", " + second, apart(run), d -> d.check(0, 1, second), -2);
                }
            }
        }
    }

    /** "of the latest 200 SECONDS that were run": he has none to read ahead of the first. */
    private static void noSecondRun() {
        Twins.still("27 none", apart(0), d -> d.check(0, 0, NONE), NONE);
        Twins.still("27 second 0", apart(0), d -> d.check(0, 0, 0), -2);
        Twins.still("27 no streams", Towns.ofQuiet(0), d -> d.check(0, 0, NONE), NONE);
        Twins.still("27 no streams, run", Twins.then(Towns.ofQuiet(0), d -> d.run(9)), d -> d.check(0, 0, NONE), NONE);
        Twins.still("27 no streams, second 0", Twins.then(Towns.ofQuiet(0), d -> d.run(9)),
                d -> d.check(0, 0, 0), -2);
    }

    /** "(NONE: none; i isn't asked then)"; "-2: no such junction, STREAM". */
    private static void streamNotAsked() {
        for (int i : new int[] {-1, 3, 8, 32, LEAST_INT, MOST_INT}) {
            Twins.still("27 not asked, " + i, apart(50), d -> d.check(0, i, NONE), NONE);
            Twins.still("27 asked, " + i, apart(50), d -> d.check(0, i, 20), -2);
        }
        for (int k : new int[] {-1, 1, LEAST_INT, MOST_INT}) {
            Twins.still("27 no junction " + k, apart(50), d -> d.check(k, 0, NONE), -2);
            Twins.still("27 no junction " + k + ", 20", apart(50), d -> d.check(k, 0, 20), -2);
        }
    }

    /** "two that are AGAINST (and don't YIELD) are green". */
    private static void atOneSecond() {
        GreenDesk desk = Twins.desk(apart(60));
        for (int t = 0; t < 10; t++) {
            Due.due("27 1 beside 0 at " + t, desk.check(0, 1, t), t);
        }
        for (int t = 30; t < 40; t++) {
            Due.due("27 0 beside 1 at " + t, desk.check(0, 0, t), Math.max(t, 30));
        }
    }

    /** "or j is though i was at one of so many SECONDS ahead". */
    private static void soManyAhead() {
        GreenDesk desk = Twins.desk(apart(100));
        for (int t = 10; t < 22; t++) {
            Due.due("27 1 behind 0, at " + t, desk.check(0, 1, t), t <= 14 ? t : NONE);
        }
        for (int t = 18; t < 30; t++) {
            Due.due("27 0 ahead of 1, at " + t, desk.check(0, 0, t), t >= 25 ? 30 : NONE);
        }
        for (int t = 40; t < 52; t++) {
            Due.due("27 0 behind 1, at " + t, desk.check(0, 0, t), t <= 47 ? t : NONE);
        }
        for (int t = 48; t < 60; t++) {
            Due.due("27 1 ahead of 0, at " + t, desk.check(0, 1, t), t >= 52 ? 60 : NONE);
        }
    }

    /** "j is though i was": there isn't back, up to 20 seconds and from 1 on. */
    private static void inThisOrder() {
        Twins.Town far = desk -> {
            Towns.addQuiet(desk, 3);
            desk.against(0, 0, 1, 20, 1);
            Towns.begin(desk, 0, 60, 1 + 4, 10, 4, 20, 2 + 4, 10, 4, 20);
            Due.due("12 taken", desk.take(0, 0), 0);
            desk.run(100);
        };
        Twins.is("27 20 behind 0", far, d -> d.check(0, 1, 29), 29);
        Twins.is("27 20 ahead of 1", far, d -> d.check(0, 0, 10), 30);
        Twins.is("27 1 behind 1", far, d -> d.check(0, 0, 40), 40);
        Twins.is("27 2 behind 1", far, d -> d.check(0, 0, 41), NONE);
        Twins.is("27 1 ahead of 0", far, d -> d.check(0, 1, 59), 59 + 1);
        Twins.is("27 2 ahead of 0", far, d -> d.check(0, 1, 58), NONE);
    }

    /** "that he reads": what was ahead of the 200 doesn't matter. */
    private static void onlyThoseThatHeReads() {
        // 0's last green second is 9; 1 is turned to green at 14, five behind it.
        Twins.is("27 9 is the first read", apart(209), d -> d.check(0, 1, 14), 14);
        Twins.is("27 9 isn't read", apart(210), d -> d.check(0, 1, 14), NONE);
        Twins.is("27 39 is the first read", apart(239), d -> d.check(0, 0, 47), 47);
        Twins.is("27 39 isn't read", apart(240), d -> d.check(0, 0, 47), NONE);
    }

    /** "the first SECOND at which". */
    private static void theFirstSecond() {
        // Green at 25 to 29 0 is too near to 1 from 30 on, and 1 at 55 is to 0 from 60 on.
        Twins.is("27 30, not 31", apart(100), d -> d.check(0, 0, 29), 30);
        Twins.is("27 60, not 61", apart(100), d -> d.check(0, 1, 58), 60);
        Twins.is("27 not yet run", apart(60), d -> d.check(0, 1, 58), NONE);
        Twins.is("27 just run", apart(61), d -> d.check(0, 1, 58), 60);
    }

    /** "being taken as the other way round": also from green to dark. */
    private static void turnedOff() {
        GreenDesk desk = Twins.desk(apart(60));
        for (int t = 0; t < 60; t++) {
            Due.due("27 2 dark at " + t, desk.check(0, 2, t), NONE);
        }
        Due.due("27 0 dark at 9", desk.check(0, 0, 9), NONE);
        Due.due("27 1 dark at 30", desk.check(0, 1, 30), NONE);
    }

    /** "(and don't YIELD)". */
    private static void thoseThatYield() {
        Twins.Town town = desk -> {
            desk.junction();
            desk.stream(0, 1, 0, 900, 4);
            desk.stream(0, 3, 0, 900, 4);
            desk.stream(0, 0, 0, 900, 4);
            desk.against(0, 0, 1, 5, 5);
            desk.against(0, 1, 2, 5, 5);
            desk.yields(0, 0, 1);
            Towns.begin(desk, 0, 40, 1, 10, 2, 10, 4, 15);
            Due.due("12 taken", desk.take(0, 0), 0);
            desk.run(80);
        };
        Twins.is("27 1 yields to nobody, 0 does", town, d -> d.check(0, 1, 5), NONE);
        Twins.is("27 0 beside 1", town, d -> d.check(0, 0, 15), NONE);
        Twins.is("27 2 beside 1", town, d -> d.check(0, 2, 15), 15);
    }

    /** "The GUARD reads the lamps": those of a junction that has no green at all are dark. */
    private static void lampsThatWereShown() {
        Twins.Town flashing = Twins.then(apart(5), desk -> {
            desk.tear(0, 0);
            desk.run(100);
        });
        Twins.is("27 0 was green", flashing, d -> d.check(0, 1, 4), 4);
        Twins.is("27 0 would have been", flashing, d -> d.check(0, 1, 9), 9);
        Twins.is("27 0 is long dark", flashing, d -> d.check(0, 1, 10), NONE);
        Twins.is("27 0 is long dark", flashing, d -> d.check(0, 1, 62), NONE);
        Twins.Town clearing = Twins.then(apart(60), desk -> {
            desk.offset(0, 1);
            desk.run(60);
        });
        Twins.is("27 dark at 61 by clearing", clearing, d -> d.check(0, 1, 61), NONE);
        Twins.is("27 31 on is 1's", clearing, d -> d.check(0, 0, 95), 95);
        Twins.Town none = Twins.then(Towns.ofQuiet(2), desk -> {
            desk.against(0, 0, 1, 5, 5);
            desk.run(50);
        });
        Twins.is("27 without a plan", none, d -> d.check(0, 1, 20), NONE);
    }

    /** He only reads: the lamp that was turned is as it was for the next one who asks. */
    private static void changesNothing() {
        Twins.still("27 turned to green", apart(100), d -> d.check(0, 1, 5), 5);
        Twins.still("27 turned to dark", apart(100), d -> d.check(0, 0, 5), NONE);
        // 2's stream 3 begins at 34, and it takes 5 seconds from 0's end to it.
        Twins.still("27 under way", Towns.UNDER_WAY, d -> d.check(2, 0, 30), 34);
    }
}
