import java.util.Map;
import java.util.Random;
import java.util.TreeMap;

/**
 * All promises: long runs of calls, of right and of wrong ones, each answer held against
 * PlainDesk's. The runs are the same each time.
 */
public final class AgainstPlainTest {
    private static final int RUNS = 400;
    private static final int CALLS = 512;
    private static final int[] ODD = {Integer.MIN_VALUE, -1000, -20, -11, -10, -2, -1, 0, 1, 2, 3, 4,
        5, 7, 8, 9, 10, 11, 12, 19, 20, 21, 30, 31, 60, 61, 89, 90, 91, 99, 100, 120, 121, 199, 200,
        255, 256, 300, 301, 599, 600, 999, 1000, 1200, 3600, 3601, 99999, 100000, 1000000, 1000001,
        Integer.MAX_VALUE};

    private final Random chance;
    private final int run;
    private final GreenDesk desk = new GreenDesk();
    private final PlainDesk plain = new PlainDesk();
    private final Map<String, Integer> told;
    private int calls = 0;
    private int costly = 0;

    private AgainstPlainTest(int run, Map<String, Integer> told) {
        this.run = run;
        this.told = told;
        this.chance = new Random(run * 7919L + 1);
    }

    public static void main(String[] args) {
        Map<String, Integer> told = new TreeMap<>();
        for (int run = 0; run < RUNS; run++) {
            new AgainstPlainTest(run, told).go();
        }
        // Runs of calls that never come to an answer tell nothing about it.
        String[] often = {"take 0", "take 1", "take 2", "take 3", "take 4", "take 5", "take 6",
            "share found", "share none", "fit 1", "fit 0", "wave found", "wave none", "width found",
            "width none", "check found", "check none", "check -2", "flashes 1", "tear 1", "offset 1",
            "set found", "set none", "lamp 1", "lamp 0", "queue found", "queue none"};
        for (String answer : often) {
            Due.due(answer + ", often enough", told.getOrDefault(answer, 0) > 100, true);
        }
        Due.end();
    }

    private void go() {
        build();
        while (calls < CALLS) {
            int pick = chance.nextInt(100);
            if (pick < 6) {
                begin(junction());
            } else if (pick < 20) {
                ask(chance.nextInt(27), true);
            } else {
                ask(chance.nextInt(27), false);
            }
        }
    }

    private void due(String call, long got, long want) {
        calls++;
        String name = call.substring(0, call.indexOf('('));
        told.merge(name + " " + want, 1, Integer::sum);
        told.merge(name + (want >= 0 ? " found" : want == -1 ? " none" : " else"), 1, Integer::sum);
        Due.due("run " + run + ": " + call, got, want);
    }

    private void due(String call, boolean got, boolean want) {
        due(call, got ? 1L : 0L, want ? 1L : 0L);
    }

    private int below(int n) {
        return chance.nextInt(n);
    }

    private int odd() {
        return ODD[chance.nextInt(ODD.length)];
    }

    private int junction() {
        return below(Math.max(1, desk.count(0)));
    }

    private int streams(int junction) {
        int n = 0;
        while (n < 8 && desk.queue(junction, n, 7) >= 0) {
            n++;
        }
        return Math.max(1, n);
    }

    private void build() {
        int junctions = 1 + below(4);
        for (int k = 0; k < junctions; k++) {
            due("junction()", desk.junction(), plain.junction());
            int streams = below(20) == 0 ? 0 : 2 + below(7);
            int busy = below(3) == 0 ? 3601 : 700;
            for (int i = 0; i < streams; i++) {
                stream(k, below(4), below(4) == 0 ? 0 : below(busy), 600 + below(3001), 4 + below(8));
            }
            int pairs = below(1 + streams * streams / 2);
            for (int p = 0; p < pairs; p++) {
                against(k, below(streams), below(streams), 1 + below(6), 1 + below(below(4) == 0 ? 20 : 6));
                if (below(3) == 0) {
                    yields(k, below(streams), below(streams));
                }
            }
        }
        int streets = below(10);
        for (int k = 0; k < streets; k++) {
            int a = junction();
            int b = junction();
            street(a, below(streams(a)), b, below(streams(b)), 1 + below(60), 1 + below(below(2) == 0 ? 60 : 8));
        }
        for (int k = 0; k < junctions; k++) {
            for (int again = 0; again < 6 && desk.told(k, 0) < 0; again++) {
                begin(k);
            }
        }
    }

    /** Every other run has one cycle for all its plans, so that there are ways to pass. */
    private void begin(int k) {
        beginWith(k, run % 2 == 0 ? 40 + run % 51 : 20 + below(71));
    }

    /** A plan by greatest sets, or by parts of them, mostly fitted so that it adds up. */
    private void beginWith(int k, int cycle) {
        plan(k, cycle);
        int stages = 2 + below(3);
        int sets = desk.sets(k);
        for (int s = 0; s < stages && sets > 0; s++) {
            int bits = desk.set(k, below(sets));
            if (below(3) == 0) {
                bits &= below(256);
            }
            stage(k, bits, below(30));
        }
        if (below(4) != 0) {
            fit(k, cycle);
            for (int s = 0; s < 4; s++) {
                due("green(" + k + ", " + s + ")", desk.green(k, s), plain.green(k, s));
            }
        }
        if (below(3) == 0) {
            share(k);
        }
        take(k, below(cycle));
    }

    private int some(boolean wild, int value) {
        return wild && below(3) == 0 ? odd() : value;
    }

    private void ask(int what, boolean wild) {
        int k = some(wild, junction());
        int i = some(wild, below(streams(k)));
        int j = some(wild, below(streams(k)));
        switch (what) {
            case 0: due("junction()", desk.junction(), plain.junction()); break;
            case 1: stream(k, some(wild, below(4)), some(wild, 100), some(wild, 900), some(wild, 6)); break;
            case 2: against(k, i, j, some(wild, 1 + below(9)), some(wild, 1 + below(9))); break;
            case 3: yields(k, i, j); break;
            case 4: street(k, i, some(wild, junction()), j, some(wild, 5), some(wild, 5)); break;
            case 5: due("sets(" + k + ")", desk.sets(k), plain.sets(k)); break;
            case 6: set(k, some(wild, below(5))); break;
            case 7: goes(k, some(wild, below(300))); break;
            case 8: plan(k, some(wild, below(100))); break;
            case 9: stage(k, some(wild, 1 + below(255)), some(wild, below(20))); break;
            case 10: take(k, some(wild, below(60))); break;
            case 11: why(some(wild, below(3))); break;
            case 12: told(k, some(wild, below(40))); break;
            case 13: offset(k, some(wild, below(60))); break;
            case 14: tear(k, some(wild, below(6))); break;
            case 15: share(k); break;
            case 16: fit(k, some(wild, 20 + below(71))); break;
            case 17: green(k, some(wild, below(4))); break;
            case 18: lamp(k, i, some(wild, below(2000))); break;
            case 19: case 20: runOn(some(wild, below(below(4) == 0 ? 301 : 40))); break;
            case 21: queue(k, i, some(wild, below(12))); break;
            case 22: count(some(wild, below(3))); break;
            case 23: due("flashes(" + k + ")", desk.flashes(k), plain.flashes(k)); break;
            case 24: way(wild, false); break;
            case 25: way(wild, true); break;
            default: check(k, i, some(wild, desk.count(1) - 1 - below(below(2) == 0 ? 20 : 210))); break;
        }
    }

    private void stream(int k, int kind, int count, int rate, int least) {
        due("stream(" + k + ", " + kind + ", " + count + ", " + rate + ", " + least + ")",
                desk.stream(k, kind, count, rate, least), plain.stream(k, kind, count, rate, least));
    }

    private void against(int k, int i, int j, int there, int back) {
        due("against(" + k + ", " + i + ", " + j + ", " + there + ", " + back + ")",
                desk.against(k, i, j, there, back), plain.against(k, i, j, there, back));
    }

    private void yields(int k, int i, int j) {
        due("yields(" + k + ", " + i + ", " + j + ")", desk.yields(k, i, j), plain.yields(k, i, j));
    }

    private void street(int k, int i, int other, int j, int time, int room) {
        due("street(" + k + ", " + i + ", " + other + ", " + j + ", " + time + ", " + room + ")",
                desk.street(k, i, other, j, time, room), plain.street(k, i, other, j, time, room));
    }

    private void set(int k, int n) {
        due("set(" + k + ", " + n + ")", desk.set(k, n), plain.set(k, n));
    }

    private void goes(int k, int bits) {
        due("goes(" + k + ", " + bits + ")", desk.goes(k, bits), plain.goes(k, bits));
    }

    private void plan(int k, int cycle) {
        due("plan(" + k + ", " + cycle + ")", desk.plan(k, cycle), plain.plan(k, cycle));
    }

    private void stage(int k, int bits, int green) {
        due("stage(" + k + ", " + bits + ", " + green + ")",
                desk.stage(k, bits, green), plain.stage(k, bits, green));
    }

    private void take(int k, int offset) {
        due("take(" + k + ", " + offset + ")", desk.take(k, offset), plain.take(k, offset));
        for (int what = 0; what < 3; what++) {
            why(what);
        }
    }

    private void why(int what) {
        due("why(" + what + ")", desk.why(what), plain.why(what));
    }

    private void told(int k, int what) {
        due("told(" + k + ", " + what + ")", desk.told(k, what), plain.told(k, what));
    }

    private void offset(int k, int offset) {
        due("offset(" + k + ", " + offset + ")", desk.offset(k, offset), plain.offset(k, offset));
    }

    private void tear(int k, int n) {
        due("tear(" + k + ", " + n + ")", desk.tear(k, n), plain.tear(k, n));
    }

    /** PlainDesk tries all rows of greens, so it is asked a few times a run only. */
    private void share(int k) {
        costly++;
        if (costly < 8) {
            due("share(" + k + ")", desk.share(k), plain.share(k));
        }
    }

    private void fit(int k, int cycle) {
        due("fit(" + k + ", " + cycle + ")", desk.fit(k, cycle), plain.fit(k, cycle));
        for (int s = 0; s < 4; s++) {
            green(k, s);
        }
    }

    private void green(int k, int s) {
        due("green(" + k + ", " + s + ")", desk.green(k, s), plain.green(k, s));
    }

    private void lamp(int k, int i, int second) {
        due("lamp(" + k + ", " + i + ", " + second + ")", desk.lamp(k, i, second), plain.lamp(k, i, second));
    }

    private void runOn(int n) {
        due("run(" + n + ")", desk.run(n), plain.run(n));
    }

    private void queue(int k, int i, int what) {
        due("queue(" + k + ", " + i + ", " + what + ")", desk.queue(k, i, what), plain.queue(k, i, what));
    }

    private void count(int what) {
        due("count(" + what + ")", desk.count(what), plain.count(what));
    }

    private void check(int k, int i, int second) {
        due("check(" + k + ", " + i + ", " + second + ")",
                desk.check(k, i, second), plain.check(k, i, second));
    }

    private void way(boolean wild, boolean wave) {
        boolean third = below(2) == 0;
        int a = junction();
        int b = junction();
        int c = third ? junction() : GreenDesk.NONE;
        int x = below(streams(a)) + 10 * below(streams(b)) + (third ? 100 * below(streams(c)) : 0);
        int y = below(streams(a)) + 10 * below(streams(b)) + (third ? 100 * below(streams(c)) : 0);
        int[] w = {some(wild, a), some(wild, b), some(wild, c), some(wild, x), some(wild, y),
            some(wild, below(121)), some(wild, third ? below(121) : 0)};
        String call = java.util.Arrays.toString(w);
        for (int what = -1; what < 4; what++) {
            if (wave) {
                due("wave(" + call + ", " + what + ")", desk.wave(w[0], w[1], w[2], w[3], w[4], w[5], w[6],
                        what), plain.wave(w, what));
            } else {
                due("width(" + call + ", " + what + ")", desk.width(w[0], w[1], w[2], w[3], w[4], w[5], w[6],
                        what), plain.width(w, what));
            }
        }
    }
}
