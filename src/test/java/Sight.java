import java.util.ArrayList;
import java.util.Arrays;
import java.util.List;
import java.util.function.Supplier;

/**
 * All that can be asked of a desk, now and later. Each part is asked of a desk that is made for
 * it, as the document promises nothing behind a desk's 512th call.
 */
final class Sight {
    private static final int MOST_CALLS = 512;
    private static final int LATEST = 200;

    private final Supplier<GreenDesk> maker;
    private final boolean why;
    private final List<long[]> parts = new ArrayList<>();
    private final int[] streams;
    private GreenDesk desk;
    private long[] part = new long[MOST_CALLS];
    private int asked = 0;

    private Sight(Supplier<GreenDesk> maker, boolean why) {
        this.maker = maker;
        this.why = why;
        GreenDesk first = maker.get();
        streams = new int[first.count(0)];
        for (int k = 0; k < streams.length; k++) {
            while (streams[k] < 8 && first.queue(k, streams[k], 7) != GreenDesk.NONE) {
                streams[k]++;
            }
        }
    }

    static long[][] of(Supplier<GreenDesk> maker) {
        return new Sight(maker, true).all();
    }

    static long[][] withoutWhy(Supplier<GreenDesk> maker) {
        return new Sight(maker, false).all();
    }

    private long[][] all() {
        seeDesk();
        for (int k = 0; k < streams.length; k++) {
            seePlan(k);
            seeSets(k);
            seeBegunTaken(k);
            seeBegunFitted(k);
            seeGaps(k);
            seeWhatMayBeTold(k);
            seeRunOn(k);
            for (int i = 0; i < streams[k]; i++) {
                seeLamps(k, i);
            }
        }
        return parts.toArray(new long[0][]);
    }

    private void begin() {
        desk = maker.get();
        asked = 0;
    }

    /** One more than what a part may hold would be an error of the test's own. */
    private void see(long answer) {
        part[asked] = answer;
        asked++;
    }

    private void see(boolean answer) {
        see(answer ? 1 : 0);
    }

    private void end() {
        parts.add(Arrays.copyOf(part, asked));
    }

    private void seeDesk() {
        begin();
        for (int what = 0; what < 3; what++) {
            see(desk.count(what));
            if (why) {
                see(desk.why(what));
            }
        }
        for (int k = 0; k < streams.length; k++) {
            see(streams[k]);
            see(desk.flashes(k));
            see(desk.share(k));
            see(desk.check(k, 0, GreenDesk.NONE));
            int next = (k + 1) % streams.length;
            for (int what = 0; what < 2; what++) {
                see(desk.width(k, next, GreenDesk.NONE, 0, 11, 5, 0, what));
                see(desk.wave(k, next, GreenDesk.NONE, 0, 11, 5, 0, what));
            }
        }
        see(desk.junction());
        end();
    }

    private void seeTold(int k) {
        for (int what = 0; what < 4; what++) {
            see(desk.told(k, what));
            see(desk.told(k, 10 + what));
            see(desk.told(k, 20 + what));
            see(desk.told(k, 30 + what));
        }
    }

    private void seeQueues(int k, int most) {
        for (int i = 0; i < streams[k]; i++) {
            for (int what = 0; what <= most; what++) {
                see(desk.queue(k, i, what));
            }
            see(desk.queue(k, i, 11));
        }
    }

    private void seePlan(int k) {
        begin();
        seeTold(k);
        seeQueues(k, 10);
        for (int s = 0; s < 4; s++) {
            see(desk.green(k, s));
        }
        end();
    }

    private void seeSets(int k) {
        begin();
        int sets = desk.sets(k);
        see(sets);
        for (int n = 0; n < sets; n++) {
            see(desk.set(k, n));
        }
        for (int bits = 0; bits < 1 << streams[k]; bits++) {
            see(desk.goes(k, bits));
        }
        end();
    }

    private void seeBegunTaken(int k) {
        begin();
        see(desk.take(k, 0));
        for (int what = 0; what < 3 && why; what++) {
            see(desk.why(what));
        }
        seeTold(k);
        see(desk.run(30));
        seeQueues(k, 0);
        end();
    }

    private void seeBegunFitted(int k) {
        begin();
        see(desk.stage(k, 1, 9));
        see(desk.fit(k, 60));
        for (int s = 0; s < 4; s++) {
            see(desk.green(k, s));
        }
        see(desk.take(k, 59));
        end();
    }

    /** What two streams are to one another shows in the betweens of a plan of these two. */
    private void seeGaps(int k) {
        begin();
        for (int i = 0; i < streams[k]; i++) {
            for (int j = 0; j < i; j++) {
                desk.plan(k, 90);
                desk.stage(k, 1 << i, 45);
                desk.stage(k, 1 << j, 45);
                desk.fit(k, 90);
                see(desk.take(k, 0));
                see(desk.told(k, 30));
                see(desk.told(k, 31));
            }
        }
        end();
    }

    private void seeWhatMayBeTold(int k) {
        begin();
        for (int i = 0; i < streams[k]; i++) {
            for (int j = 0; j < streams[k]; j++) {
                see(desk.yields(k, i, j));
            }
            see(desk.street(k, i, (k + 1) % streams.length, 0, 60, 60));
        }
        see(desk.stream(k, 0, 0, 600, 4));
        see(desk.offset(k, 0));
        see(desk.tear(k, 0));
        end();
    }

    private void seeRunOn(int k) {
        begin();
        for (int n : new int[] {1, 9, 45, 300}) {
            see(desk.run(n));
            seeQueues(k, 6);
            see(desk.flashes(k));
        }
        end();
    }

    private void seeLamps(int k, int i) {
        begin();
        for (int t = 0; t < 90; t++) {
            see(desk.lamp(k, i, t));
        }
        int seconds = desk.count(1);
        for (int t = Math.max(0, seconds - LATEST); t < seconds; t += 7) {
            see(desk.check(k, i, t));
        }
        end();
    }
}
