/** Promises 17 and 18: share, fit. */
public final class GreensTest {
    public static void main(String[] args) {
        share();
        shareAtTheEdges();
        shareAsksEachStream();
        shareOfSeveralStages();
        fitRefuses();
        fitWithoutTraffic();
        fitBalances();
        fitOfTies();
        fitOfOverload();
        Due.end();
    }

    /** Two stages of one stream each, with these counts (rate 1,800) and betweens. */
    private static GreenDesk two(int count0, int count1, int there, int back) {
        GreenDesk desk = new GreenDesk();
        desk.junction();
        desk.stream(0, 0, count0, 1800, 4);
        desk.stream(0, 0, count1, 1800, 4);
        desk.against(0, 0, 1, there, back);
        desk.plan(0, 90);
        desk.stage(0, 1, 7);
        desk.stage(0, 2, 0);
        return desk;
    }

    private static void share() {
        GreenDesk desk = two(600, 600, 3, 4);
        Due.due("17 a third each and 7", desk.share(0), 21);
        Due.due("17 greens stay", desk.green(0, 0), 7);
        Due.due("17 greens stay", desk.green(0, 1), 0);
        Due.due("17 the cycle stays", desk.take(0, 89), 3);
        Due.due("17 a half each", two(900, 900, 1, 1).share(0), GreenDesk.NONE);
        Due.due("17 junction 1", desk.share(1), GreenDesk.NONE);
        GreenDesk none = Towns.quiet(2);
        Due.due("17 none is begun", none.share(0), GreenDesk.NONE);
        none.plan(0, 20);
        Due.due("17 no stage", none.share(0), GreenDesk.NONE);
        none.stage(0, 1, 5);
        Due.due("17 one stage", none.share(0), GreenDesk.NONE);
        none.stage(0, 1, 15);
        Due.due("17 two stages", none.share(0), 20);
        none.take(0, 0);
        Due.due("17 taken, none is begun", none.share(0), GreenDesk.NONE);
    }

    private static void shareAtTheEdges() {
        Due.due("17 the longest cycle", two(600, 600, 15, 15).share(0), 90);
        Due.due("17 beyond it", two(600, 600, 15, 16).share(0), GreenDesk.NONE);
        Due.due("17 greens of 1", two(0, 0, 20, 20).share(0), 42);
        Due.due("17 the shortest cycle", two(0, 0, 9, 9).share(0), 20);
        Due.due("17 one more", two(0, 0, 9, 10).share(0), 21);

        // 571 * 20 is one more than 19 * 601.
        GreenDesk exact = new GreenDesk();
        exact.junction();
        exact.stream(0, 0, 571, 601, 4);
        exact.stream(0, 0, 0, 601, 4);
        exact.plan(0, 20);
        exact.stage(0, 1, 1);
        exact.stage(0, 2, 1);
        Due.due("17 exact parts", exact.share(0), 21);
    }

    private static void shareAsksEachStream() {
        GreenDesk desk = new GreenDesk();
        desk.junction();
        desk.stream(0, 0, 0, 1800, 4);
        desk.stream(0, 0, 0, 1800, 4);
        desk.stream(0, 0, 1, 1800, 4);
        desk.plan(0, 30);
        desk.stage(0, 1, 5);
        desk.stage(0, 2, 5);
        Due.due("17 one in no stage", desk.share(0), GreenDesk.NONE);
        desk.stage(0, 4, 5);
        Due.due("17 in one now", desk.share(0), 20);
    }

    /** A stream in two stages has the green of both. */
    private static void shareOfSeveralStages() {
        GreenDesk desk = new GreenDesk();
        desk.junction();
        desk.stream(0, 0, 1800, 2000, 4);
        desk.stream(0, 0, 600, 1800, 4);
        desk.stream(0, 0, 600, 1800, 4);
        desk.against(0, 1, 2, 2, 2);
        desk.plan(0, 30);
        desk.stage(0, 1 + 2, 5);
        desk.stage(0, 1 + 4, 5);
        Due.due("17 nine tenths in both", desk.share(0), 40);
        desk.plan(0, 30);
        desk.stage(0, 1 + 2, 5);
        desk.stage(0, 4, 5);
        Due.due("17 nine tenths in one", desk.share(0), GreenDesk.NONE);
    }

    private static void fitRefuses() {
        GreenDesk desk = two(600, 300, 20, 20);
        Due.due("18 cycle 19", desk.fit(0, 19), false);
        Due.due("18 cycle 91", desk.fit(0, 91), false);
        Due.due("18 no green for one", desk.fit(0, 41), false);
        Due.due("18 junction 1", desk.fit(1, 60), false);
        Due.due("18 greens stay", desk.green(0, 0), 7);
        Due.due("18 the cycle stays", desk.take(0, 89), 3);
        Due.due("18 one for each", desk.fit(0, 42), true);
        Due.due("18 first", desk.green(0, 0), 1);
        Due.due("18 second", desk.green(0, 1), 1);
        Due.due("18 the cycle is 42", desk.take(0, 42), 1);
        Due.due("18 the cycle is 42", desk.take(0, 41), 5);
        GreenDesk none = Towns.quiet(1);
        Due.due("18 none is begun", none.fit(0, 30), false);
        none.plan(0, 30);
        none.stage(0, 1, 30);
        Due.due("18 one stage", none.fit(0, 30), false);
        Due.due("18 its green stays", none.green(0, 0), 30);
    }

    private static void fitWithoutTraffic() {
        GreenDesk desk = Towns.quiet(3);
        desk.plan(0, 30);
        for (int s = 0; s < 4; s++) {
            desk.stage(0, 1 << s % 3, 9);
        }
        Due.due("18 no load", desk.fit(0, 90), true);
        for (int s = 0; s < 4; s++) {
            Due.due("18 green " + s, desk.green(0, s), s < 3 ? 1 : 87);
        }
    }

    private static void fitBalances() {
        GreenDesk desk = two(600, 200, 2, 2);
        Due.due("18 three to one", desk.fit(0, 44), true);
        Due.due("18 first", desk.green(0, 0), 30);
        Due.due("18 second", desk.green(0, 1), 10);
        Due.due("18 taken", desk.take(0, 0), 0);

        GreenDesk three = new GreenDesk();
        three.junction();
        three.stream(0, 0, 600, 1800, 4);
        three.stream(0, 0, 300, 1800, 4);
        three.stream(0, 2, 600, 1800, 4);
        three.stream(0, 0, 3600, 600, 4);
        three.plan(0, 60);
        three.stage(0, 1, 1);
        three.stage(0, 2, 1);
        three.stage(0, 4, 1);
        Due.due("18 by rates, of streams in stages", three.fit(0, 60), true);
        Due.due("18 600 by 1800", three.green(0, 0), 30);
        Due.due("18 300 by 1800", three.green(0, 1), 15);
        Due.due("18 600 by 3600", three.green(0, 2), 15);
    }

    private static void fitOfTies() {
        GreenDesk desk = two(600, 600, 2, 2);
        desk.fit(0, 25);
        Due.due("18 the least first", desk.green(0, 0), 10);
        Due.due("18 the rest", desk.green(0, 1), 11);

        GreenDesk three = new GreenDesk();
        three.junction();
        three.stream(0, 0, 600, 1800, 4);
        three.stream(0, 0, 0, 1800, 4);
        three.plan(0, 60);
        three.stage(0, 2, 1);
        three.stage(0, 1, 1);
        three.stage(0, 1 + 2, 1);
        three.fit(0, 60);
        Due.due("18 the least of 2", three.green(0, 0), 1);
        Due.due("18 then the least of 1 + 3", three.green(0, 1), 1);
        Due.due("18 the rest", three.green(0, 2), 58);
    }

    private static void fitOfOverload() {
        GreenDesk desk = new GreenDesk();
        desk.junction();
        desk.stream(0, 0, 3600, 600, 4);
        desk.stream(0, 0, 3600, 600, 4);
        desk.plan(0, 60);
        desk.stage(0, 1, 1);
        desk.stage(0, 2, 1);
        Due.due("17 too much", desk.share(0), GreenDesk.NONE);
        Due.due("18 fits all the same", desk.fit(0, 60), true);
        Due.due("18 first", desk.green(0, 0), 30);
        Due.due("18 second", desk.green(0, 1), 30);

        GreenDesk narrow = new GreenDesk();
        narrow.junction();
        narrow.stream(0, 0, 3600, 600, 4);
        narrow.stream(0, 0, 3600, 600, 4);
        narrow.against(0, 0, 1, 20, 15);
        narrow.plan(0, 60);
        narrow.stage(0, 1, 1);
        narrow.stage(0, 2, 1);
        Due.due("18 five seconds for both", narrow.fit(0, 40), true);
        Due.due("18 first", narrow.green(0, 0), 2);
        Due.due("18 second", narrow.green(0, 1), 3);
    }
}
