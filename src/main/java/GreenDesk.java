/**
 * A desk for a town's traffic lights: junctions and their streams, plans of stages, queues run
 * second by second, and a guard who reads the lamps.
 *
 * <p>Rows of streams and rows of stages are bits of an int: 1 for the first one, 2 for the next.
 */
public final class GreenDesk {
    /** There is none. */
    public static final int NONE = -1;

    private static final int MOST = 8;
    private static final int HOUR = 3600;
    private static final int TURN = 1;
    private static final int WALK = 2;
    private static final int BUS = 3;
    private static final int LEAST_CYCLE = 20;
    private static final int MOST_CYCLE = 90;
    private static final int MOST_STAGES = 4;
    private static final int CLEARING_SECONDS = 20;
    private static final int SECONDS_READ = 200;
    private static final int NOT_READ = -2;
    private static final int MOST_AT_ONCE = 300;
    private static final int MOST_SECONDS = 100_000;
    private static final int LAST_LAMP = 1_000_000;
    private static final int MOST_STOPS = 3;
    private static final int LONGEST_STREET = 60;

    private final Junction[] junctions = new Junction[MOST];
    private final Watch watch = new Watch();
    private final Apportioner apportioner = new Apportioner();
    private final Way way = new Way();
    private int made;
    private int seconds;
    private int whySecond = NONE;
    private int whyStream = NONE;
    private int whyOther = NONE;

    public GreenDesk() {
    }

    public int junction() {
        if (made >= MOST || seconds != 0) {
            return NONE;
        }
        junctions[made] = new Junction();
        made++;
        return made - 1;
    }

    public int stream(int junction, int kind, int count, int rate, int least) {
        Junction at = junctionAt(junction);
        if (at == null || seconds != 0 || at.size >= MOST || at.hasPlan()) {
            return NONE;
        }
        boolean rateAsked = kind != WALK && kind != BUS;
        if (outside(kind, 0, BUS) || outside(count, 0, HOUR) || outside(least, 4, 30)
                || rateAsked && outside(rate, 600, HOUR)) {
            return NONE;
        }
        return at.add(new Stream(kind, count, rate, least));
    }

    public boolean against(int junction, int i, int j, int there, int back) {
        Junction at = junctionAt(junction);
        if (at == null || at.hasPlan() || at.member(i) == null || at.member(j) == null || i == j
                || outside(there, 1, 20) || outside(back, 1, 20)) {
            return false;
        }
        at.oppose(i, j, there, back);
        return true;
    }

    public boolean yields(int junction, int i, int j) {
        Junction at = junctionAt(junction);
        if (at == null || at.hasPlan() || !at.mayYield(i, j)) {
            return false;
        }
        at.giveWay(i, j);
        return true;
    }

    public boolean street(int junction, int i, int other, int j, int time, int room) {
        Stream from = streamAt(junction, i);
        Stream to = streamAt(other, j);
        if (from == null || to == null || junction == other || from.out != null || seconds != 0
                || outside(time, 1, LONGEST_STREET) || outside(room, 1, 60)) {
            return false;
        }
        from.out = new Street(to, time, room);
        to.in = from.out;
        return true;
    }

    public int sets(int junction) {
        Junction at = junctionAt(junction);
        return at == null ? NONE : at.greatestSets();
    }

    public int set(int junction, int k) {
        Junction at = junctionAt(junction);
        return at == null ? NONE : at.greatestSet(k);
    }

    public boolean goes(int junction, int bits) {
        Junction at = junctionAt(junction);
        return at != null && at.isSet(bits);
    }

    public boolean plan(int junction, int cycle) {
        Junction at = junctionAt(junction);
        if (at == null || outside(cycle, LEAST_CYCLE, MOST_CYCLE)) {
            return false;
        }
        if (at.begun == null) {
            at.begun = new Plan();
        }
        at.begun.cycle = cycle;
        at.begun.stages = 0;
        return true;
    }

    public int stage(int junction, int bits, int green) {
        Junction at = junctionAt(junction);
        Plan begun = begunAt(junction);
        if (at == null || begun == null || begun.stages >= MOST_STAGES || bits == 0
                || !at.isSet(bits) || outside(green, 0, 90)) {
            return NONE;
        }
        begun.add(bits, green);
        at.measureBetweens(begun);
        return begun.stages - 1;
    }

    public int take(int junction, int offset) {
        Junction at = junctionAt(junction);
        Plan begun = begunAt(junction);
        if (at == null || begun == null || outside(offset, 0, begun.cycle - 1)) {
            return 1;
        }
        if (begun.stages < 2) {
            return 2;
        }
        if (begun.hasStageWithoutGreen()) {
            return 3;
        }
        if (begun.allGreens() + begun.allBetweens() != begun.cycle) {
            return 4;
        }
        begun.layLamps();
        if (tellsShortGreen(at, begun)) {
            return 5;
        }
        if (tellsClash(at, begun)) {
            return 6;
        }
        at.adopt(offset, seconds);
        return 0;
    }

    public int why(int what) {
        switch (what) {
            case 0:
                return whySecond;
            case 1:
                return whyStream;
            case 2:
                return whyOther;
            default:
                return NONE;
        }
    }

    public int told(int junction, int what) {
        Plan taken = takenAt(junction);
        if (taken == null) {
            return NONE;
        }
        switch (what) {
            case 0:
                return taken.cycle;
            case 1:
                return taken.shift;
            case 2:
                return taken.stages;
            case 3:
                return taken.allBetweens();
            default:
                return taken.toldOfStage(what / 10, what % 10);
        }
    }

    public boolean offset(int junction, int offset) {
        Junction at = junctionAt(junction);
        Plan taken = takenAt(junction);
        if (at == null || taken == null || outside(offset, 0, taken.cycle - 1)
                || offset == taken.shift) {
            return false;
        }
        taken.shift = offset;
        at.clear(seconds);
        return true;
    }

    public boolean tear(int junction, int n) {
        Plan taken = takenAt(junction);
        if (taken == null || outside(n, 0, taken.stages)) {
            return false;
        }
        taken.whole = Math.min(taken.whole, n);
        return true;
    }

    public int share(int junction) {
        Junction at = junctionAt(junction);
        Plan begun = begunAt(junction);
        if (at == null || begun == null || begun.stages < 2) {
            return NONE;
        }
        return apportioner.leastCycle(at, begun);
    }

    public boolean fit(int junction, int cycle) {
        Junction at = junctionAt(junction);
        Plan begun = begunAt(junction);
        if (at == null || begun == null || begun.stages < 2
                || outside(cycle, LEAST_CYCLE, MOST_CYCLE)
                || cycle - begun.allBetweens() < begun.stages) {
            return false;
        }
        apportioner.findFittest(at, begun, cycle - begun.allBetweens());
        for (int s = 0; s < begun.stages; s++) {
            begun.greens[s] = apportioner.found[s];
        }
        begun.cycle = cycle;
        return true;
    }

    public int green(int junction, int s) {
        Plan begun = begunAt(junction);
        return begun == null || outside(s, 0, begun.stages - 1) ? NONE : begun.greens[s];
    }

    public int lamp(int junction, int i, int second) {
        Junction at = junctionAt(junction);
        if (at == null || at.member(i) == null || outside(second, 0, LAST_LAMP)) {
            return NONE;
        }
        return at.taken != null && at.taken.shows(i, second) ? 1 : 0;
    }

    public int run(int n) {
        if (outside(n, 0, MOST_AT_ONCE) || seconds + n > MOST_SECONDS) {
            return NONE;
        }
        for (int k = 0; k < n; k++) {
            for (int j = 0; j < made; j++) {
                junctions[j].pass(seconds);
            }
            seconds++;
        }
        return seconds;
    }

    public long queue(int junction, int i, int what) {
        Junction at = junctionAt(junction);
        Stream member = streamAt(junction, i);
        if (at == null || member == null) {
            return NONE;
        }
        return what == 11 ? at.lit >> i & 1 : member.toldOfQueue(what);
    }

    public int count(int what) {
        switch (what) {
            case 0:
                return made;
            case 1:
                return seconds;
            case 2:
                return flashing();
            default:
                return NONE;
        }
    }

    public boolean flashes(int junction) {
        Junction at = junctionAt(junction);
        return at != null && at.flashing;
    }

    public int width(int a, int b, int c, int x, int y, int p, int q, int what) {
        if (outside(what, 0, 1) || !layWay(a, b, c, x, y, p, q)) {
            return NONE;
        }
        return way.passing(what);
    }

    public int wave(int a, int b, int c, int x, int y, int p, int q, int what) {
        if (outside(what, 0, 2) || !layWay(a, b, c, x, y, p, q)) {
            return NONE;
        }
        way.findBest();
        if (what == 0) {
            return way.bestLesser;
        }
        if (what == 1) {
            return way.bestSecond;
        }
        return way.stops == MOST_STOPS ? way.bestThird : NONE;
    }

    public int check(int junction, int i, int second) {
        Junction at = junctionAt(junction);
        if (at == null) {
            return NOT_READ;
        }
        int first = Math.max(0, seconds - SECONDS_READ);
        if (second == NONE) {
            return watch.firstClashRead(at, first, seconds, NONE, 0);
        }
        if (at.member(i) == null || outside(second, first, seconds - 1)) {
            return NOT_READ;
        }
        return watch.firstClashRead(at, first, seconds, second, 1 << i);
    }

    private static boolean outside(int value, int least, int most) {
        return value < least || value > most;
    }

    private Junction junctionAt(int junction) {
        return outside(junction, 0, made - 1) ? null : junctions[junction];
    }

    private Stream streamAt(int junction, int i) {
        Junction at = junctionAt(junction);
        return at == null ? null : at.member(i);
    }

    private Plan begunAt(int junction) {
        Junction at = junctionAt(junction);
        return at == null ? null : at.begun;
    }

    private Plan takenAt(int junction) {
        Junction at = junctionAt(junction);
        return at == null ? null : at.taken;
    }

    private int flashing() {
        int found = 0;
        for (int j = 0; j < made; j++) {
            if (junctions[j].flashing) {
                found++;
            }
        }
        return found;
    }

    private boolean tellsShortGreen(Junction at, Plan begun) {
        for (int t = 0; t < begun.cycle; t++) {
            int i = at.firstShortGreen(begun, t);
            if (i != NONE) {
                whySecond = t;
                whyStream = i;
                whyOther = NONE;
                return true;
            }
        }
        return false;
    }

    private boolean tellsClash(Junction at, Plan begun) {
        int t = watch.firstClashOf(at, begun);
        if (t == NONE) {
            return false;
        }
        whySecond = t;
        whyStream = watch.clashEarlier;
        whyOther = watch.clashLater;
        return true;
    }

    private boolean layWay(int a, int b, int c, int x, int y, int p, int q) {
        boolean third = c != NONE;
        int mostDigits = third ? 999 : 99;
        if (a == b || a == c || b == c || outside(x, 0, mostDigits) || outside(y, 0, mostDigits)
                || outside(p, 0, 120) || outside(q, 0, third ? 120 : 0)) {
            return false;
        }
        way.stops = 0;
        // Back one comes to the last junction first, so that the first one has the whole time.
        return laysStop(a, x % 10, y % 10, 0, p + q)
                && laysStop(b, x / 10 % 10, y / 10 % 10, p, q)
                && (!third || laysStop(c, x / 100, y / 100, p + q, 0));
    }

    private boolean laysStop(int junction, int there, int back, int timeThere, int timeBack) {
        Junction at = junctionAt(junction);
        if (at == null || at.taken == null || at.member(there) == null || at.member(back) == null
                || way.stops > 0 && at.taken.cycle != way.plans[0].cycle) {
            return false;
        }
        way.add(at.taken, there, back, timeThere, timeBack);
        return true;
    }

    /** What is on its way from one stream to another junction's. */
    private static final class Street {
        // One slot more than the longest time: what is sent never meets what is due.
        private static final int SLOTS = LONGEST_STREET + 1;

        final Stream end;
        final Street nextToEnd;
        final int time;
        final int room;
        final boolean[] due = new boolean[SLOTS];
        int load;

        Street(Stream end, int time, int room) {
            this.end = end;
            this.nextToEnd = end.in;
            this.time = time;
            this.room = room;
        }

        boolean isFull() {
            return load + end.waiting >= room;
        }

        void send(int second) {
            due[(second + time) % SLOTS] = true;
            load++;
        }

        boolean brings(int second) {
            int slot = second % SLOTS;
            if (!due[slot]) {
                return false;
            }
            due[slot] = false;
            load--;
            return true;
        }
    }

    private static final class Stream {
        final int kind;
        final int hourly;
        final int rate;
        final int least;
        Street out;
        Street in;
        int account;
        int credit;
        int waiting;
        int came;
        int left;
        int stopped;
        int mostWaiting;
        long waited;

        Stream(int kind, int hourly, int rate, int least) {
            this.kind = kind;
            this.hourly = hourly;
            this.rate = kind == WALK ? HOUR : kind == BUS ? 1200 : rate;
            this.least = kind == WALK ? Math.max(8, least) : kind == TURN ? Math.max(5, least) : least;
        }

        void pass(int second, boolean green) {
            account += hourly;
            if (account >= HOUR) {
                account -= HOUR;
                come(green);
            }
            for (Street from = in; from != null; from = from.nextToEnd) {
                if (from.brings(second)) {
                    come(green);
                }
            }
            leave(second, green);
            waited += waiting;
            mostWaiting = Math.max(mostWaiting, waiting);
        }

        void come(boolean green) {
            if (!green || waiting > 0) {
                stopped++;
            }
            came++;
            waiting++;
        }

        void leave(int second, boolean green) {
            credit = green ? credit + rate : 0;
            if (credit >= HOUR && waiting > 0 && (out == null || !out.isFull())) {
                credit -= HOUR;
                waiting--;
                left++;
                if (out != null) {
                    out.send(second);
                }
            }
            credit = Math.min(credit, HOUR);
        }

        long toldOfQueue(int what) {
            switch (what) {
                case 0:
                    return waiting;
                case 1:
                    return came;
                case 2:
                    return left;
                case 3:
                    return waited;
                case 4:
                    return stopped;
                case 5:
                    return mostWaiting;
                case 6:
                    return out == null ? NONE : out.load;
                case 7:
                    return kind;
                case 8:
                    return rate;
                case 9:
                    return least;
                case 10:
                    return hourly;
                default:
                    return NONE;
            }
        }
    }

    private static final class Plan {
        // Never 0, so that it may divide.
        int cycle = LEAST_CYCLE;
        int shift;
        int stages;
        // How many of the greens aren't torn off.
        int whole;
        final int[] rows = new int[MOST_STAGES];
        final int[] greens = new int[MOST_STAGES];
        final int[] betweens = new int[MOST_STAGES];
        // Where each stage with the between behind it ends.
        final int[] ends = new int[MOST_STAGES];
        // The streams that are green at each second of the cycle.
        final int[] lamps = new int[MOST_CYCLE];

        void add(int bits, int green) {
            rows[stages] = bits;
            greens[stages] = green;
            stages++;
        }

        int behind(int s) {
            return s + 1 < stages ? s + 1 : 0;
        }

        boolean hasStageWithoutGreen() {
            for (int s = 0; s < stages; s++) {
                if (greens[s] < 1) {
                    return true;
                }
            }
            return false;
        }

        int allGreens() {
            int sum = 0;
            for (int s = 0; s < stages; s++) {
                sum += greens[s];
            }
            return sum;
        }

        int allBetweens() {
            int sum = 0;
            for (int s = 0; s < stages; s++) {
                sum += betweens[s];
            }
            return sum;
        }

        int toldOfStage(int which, int s) {
            if (s < 0 || s >= stages) {
                return NONE;
            }
            switch (which) {
                case 1:
                    return rows[s];
                case 2:
                    return s < whole ? greens[s] : NONE;
                case 3:
                    return betweens[s];
                default:
                    return NONE;
            }
        }

        void layLamps() {
            int end = 0;
            for (int s = 0; s < stages; s++) {
                layRow(end, end + greens[s], rows[s]);
                end += greens[s];
                layRow(end, end + betweens[s], rows[s] & rows[behind(s)]);
                end += betweens[s];
                ends[s] = end;
            }
        }

        void layRow(int from, int to, int bits) {
            for (int t = from; t < to && t < MOST_CYCLE; t++) {
                lamps[t] = bits;
            }
        }

        int placeAt(int second) {
            return Math.floorMod(second - shift, cycle);
        }

        int stageOf(int place) {
            for (int s = 0; s < stages; s++) {
                if (place < ends[s]) {
                    return s;
                }
            }
            return stages - 1;
        }

        boolean shows(int i, int second) {
            return (lamps[placeAt(second)] >> i & 1) != 0;
        }

        int stagesWith(int i) {
            int bits = 0;
            for (int s = 0; s < stages; s++) {
                if ((rows[s] >> i & 1) != 0) {
                    bits |= 1 << s;
                }
            }
            return bits;
        }
    }

    private static final class Junction {
        final Stream[] streams = new Stream[MOST];
        // The seconds from i's end to j's beginning at i * MOST + j; 0 where they aren't against.
        final int[] gaps = new int[MOST * MOST];
        final int[] yieldsTo = new int[MOST];
        // Of each stream those that may not go beside it.
        final int[] barred = new int[MOST];
        final int[] read = new int[SECONDS_READ];
        int size;
        Plan begun;
        Plan taken;
        boolean flashing;
        int clearTill;
        int lit;

        int add(Stream stream) {
            streams[size] = stream;
            size++;
            return size - 1;
        }

        Stream member(int i) {
            return i < 0 || i >= size ? null : streams[i];
        }

        boolean hasPlan() {
            return begun != null || taken != null;
        }

        void oppose(int i, int j, int there, int back) {
            gaps[i * MOST + j] = there;
            gaps[j * MOST + i] = back;
            if ((yieldsTo[i] >> j & 1) == 0 && (yieldsTo[j] >> i & 1) == 0) {
                barred[i] |= 1 << j;
                barred[j] |= 1 << i;
            }
        }

        boolean mayYield(int i, int j) {
            Stream turn = member(i);
            Stream other = member(j);
            return turn != null && other != null && turn.kind == TURN && other.kind != TURN
                    && gaps[i * MOST + j] != 0 && (yieldsTo[i] >> j & 1) == 0;
        }

        void giveWay(int i, int j) {
            yieldsTo[i] |= 1 << j;
            barred[i] &= ~(1 << j);
            barred[j] &= ~(1 << i);
        }

        boolean isSet(int bits) {
            if (bits < 0 || bits >= 1 << size) {
                return false;
            }
            for (int i = 0; i < size; i++) {
                if ((bits >> i & 1) != 0 && (barred[i] & bits) != 0) {
                    return false;
                }
            }
            return true;
        }

        boolean isGreatest(int bits) {
            for (int i = 0; i < size; i++) {
                // One inside has to be barred by none, one outside by some.
                boolean inside = (bits >> i & 1) != 0;
                if (inside != ((barred[i] & bits) == 0)) {
                    return false;
                }
            }
            return true;
        }

        int greatestSets() {
            int found = 0;
            for (int bits = 1; bits < 1 << size; bits++) {
                if (isGreatest(bits)) {
                    found++;
                }
            }
            return found;
        }

        int greatestSet(int k) {
            int found = 0;
            for (int bits = 1; bits < 1 << size; bits++) {
                if (isGreatest(bits)) {
                    if (found == k) {
                        return bits;
                    }
                    found++;
                }
            }
            return NONE;
        }

        void measureBetweens(Plan plan) {
            for (int s = 0; s < plan.stages; s++) {
                int now = plan.rows[s];
                int next = plan.rows[plan.behind(s)];
                plan.betweens[s] = between(now & ~next, next & ~now);
            }
        }

        int between(int ending, int beginning) {
            int greatest = 0;
            for (int i = 0; i < size; i++) {
                int after = (ending >> i & 1) == 0 ? 0 : barred[i] & beginning;
                for (int j = 0; j < size && after != 0; j++) {
                    if ((after >> j & 1) != 0) {
                        greatest = Math.max(greatest, gaps[i * MOST + j]);
                    }
                }
            }
            return greatest;
        }

        /** The least stream that begins at a second of the cycle and ends too soon. */
        int firstShortGreen(Plan plan, int t) {
            int before = plan.lamps[t == 0 ? plan.cycle - 1 : t - 1];
            int begins = plan.lamps[t] & ~before;
            for (int i = 0; i < size && begins != 0; i++) {
                if ((begins >> i & 1) != 0 && endsTooSoon(plan, i, t)) {
                    return i;
                }
            }
            return NONE;
        }

        boolean endsTooSoon(Plan plan, int i, int t) {
            int place = t;
            for (int k = 0; k < streams[i].least; k++) {
                if ((plan.lamps[place] >> i & 1) == 0) {
                    return true;
                }
                place = place + 1 < plan.cycle ? place + 1 : 0;
            }
            return false;
        }

        void adopt(int offset, int seconds) {
            taken = begun;
            begun = null;
            taken.shift = offset;
            taken.whole = taken.stages;
            flashing = false;
            clear(seconds);
        }

        void clear(int seconds) {
            if (seconds > 0) {
                clearTill = seconds + CLEARING_SECONDS;
            }
        }

        void pass(int second) {
            lit = lampsAt(second);
            read[second % SECONDS_READ] = lit;
            for (int i = 0; i < size; i++) {
                streams[i].pass(second, (lit >> i & 1) != 0);
            }
        }

        int lampsAt(int second) {
            if (taken == null) {
                return 0;
            }
            int place = taken.placeAt(second);
            if (taken.whole < taken.stages && taken.stageOf(place) >= taken.whole) {
                flashing = true;
            }
            return flashing || second < clearTill ? 0 : taken.lamps[place];
        }
    }

    /** Follows lamps from second to second, for those that are green too near to one another. */
    private static final class Watch {
        // Beyond every gap, and low enough to be counted on from.
        private static final int LONG_AGO = 1000;

        final int[] since = new int[MOST];
        int clashEarlier = NONE;
        int clashLater = NONE;

        void forget() {
            for (int i = 0; i < MOST; i++) {
                since[i] = LONG_AGO;
            }
        }

        void see(int bits) {
            for (int i = 0; i < MOST; i++) {
                since[i] = (bits >> i & 1) != 0 ? 0 : since[i] + 1;
            }
        }

        boolean findsClash(Junction at, int bits) {
            for (int j = 0; j < at.size; j++) {
                if ((bits >> j & 1) != 0 && at.barred[j] != 0 && findsEarlier(at, j)) {
                    return true;
                }
            }
            return false;
        }

        boolean findsEarlier(Junction at, int j) {
            for (int i = 0; i < at.size; i++) {
                if ((at.barred[j] >> i & 1) != 0 && since[i] <= at.gaps[i * MOST + j]) {
                    clashEarlier = i;
                    clashLater = j;
                    return true;
                }
            }
            return false;
        }

        int firstClashOf(Junction at, Plan plan) {
            forget();
            // Once round without asking, as the cycle's end stands ahead of its beginning.
            for (int t = 0; t < plan.cycle; t++) {
                see(plan.lamps[t]);
            }
            for (int t = 0; t < plan.cycle; t++) {
                see(plan.lamps[t]);
                if (findsClash(at, plan.lamps[t])) {
                    return t;
                }
            }
            return NONE;
        }

        /** The first clash from a second on, the lamps of some streams being turned at one. */
        int firstClashRead(Junction at, int from, int to, int turnedAt, int turned) {
            forget();
            for (int t = from; t < to; t++) {
                int bits = at.read[t % SECONDS_READ] ^ (t == turnedAt ? turned : 0);
                see(bits);
                if (findsClash(at, bits)) {
                    return t;
                }
            }
            return NONE;
        }
    }

    /** Deals the seconds of a cycle out to the stages as greens. */
    private static final class Apportioner {
        private static final int UNMEETABLE = 1_000_000;
        private static final int BEHIND_FIRST = 14;

        // The least sum of greens for each row of stages; that of none of them isn't read.
        final int[] needs = new int[1 << MOST_STAGES];
        final int[] low = new int[MOST_STAGES];
        final int[] high = new int[MOST_STAGES];
        final int[] found = new int[MOST_STAGES];
        // The least greatest load that was found: a count by a rate times greens.
        long bestCount;
        long bestService;

        int leastCycle(Junction at, Plan plan) {
            if (leavesOneOut(at, plan)) {
                return NONE;
            }
            for (int cycle = LEAST_CYCLE; cycle <= MOST_CYCLE; cycle++) {
                askForLoad(at, plan, 1, cycle);
                if (deals(cycle - plan.allBetweens(), plan.stages)) {
                    return cycle;
                }
            }
            return NONE;
        }

        boolean leavesOneOut(Junction at, Plan plan) {
            for (int i = 0; i < at.size; i++) {
                if (at.streams[i].hourly > 0 && plan.stagesWith(i) == 0) {
                    return true;
                }
            }
            return false;
        }

        void findFittest(Junction at, Plan plan, int total) {
            bestCount = 1;
            bestService = 0;
            for (int i = 0; i < at.size; i++) {
                Stream stream = at.streams[i];
                if (stream.hourly > 0 && plan.stagesWith(i) != 0) {
                    int most = mostGreen(at, plan, i, total);
                    keepIfBetter(stream.hourly, (long) stream.rate * most);
                }
            }
            askForLoad(at, plan, bestCount, bestService);
            deals(total, plan.stages);
        }

        /**
         * The most green for stream i whose load no stream needs to be above; 0 if each is too
         * much. The least greatest load is that of some stream at its most.
         */
        int mostGreen(Junction at, Plan plan, int i, int total) {
            int good = 0;
            int bad = total + 1;
            for (int step = 0; step < MOST_CYCLE && bad - good > 1; step++) {
                int middle = (good + bad) / 2;
                askForLoad(at, plan, at.streams[i].hourly, (long) at.streams[i].rate * middle);
                if (deals(total, plan.stages)) {
                    good = middle;
                } else {
                    bad = middle;
                }
            }
            return good;
        }

        void keepIfBetter(long count, long service) {
            if (count * bestService < bestCount * service) {
                bestCount = count;
                bestService = service;
            }
        }

        /** Fills the needs by which no stream's count by rate times greens is above a load. */
        void askForLoad(Junction at, Plan plan, long count, long service) {
            for (int row = 0; row < needs.length; row++) {
                needs[row] = 0;
            }
            for (int i = 0; i < at.size; i++) {
                Stream stream = at.streams[i];
                int row = plan.stagesWith(i);
                int need = partsUp(stream.hourly * service, stream.rate * count);
                needs[row] = Math.max(needs[row], need);
            }
        }

        static int partsUp(long whole, long part) {
            if (part <= 0) {
                return whole > 0 ? UNMEETABLE : 0;
            }
            return (int) Math.min(UNMEETABLE, (whole + part - 1) / part);
        }

        /** Finds the greens that add up and meet the needs, the first one least, then the next. */
        boolean deals(int total, int stages) {
            for (int first = Math.max(1, needs[1]); first < total; first++) {
                if (dealsBehind(first, total - first, stages)) {
                    found[0] = first;
                    return true;
                }
            }
            return false;
        }

        /**
         * Deals out what the first green leaves. As the sum is given, what two of the three
         * others need together is but a bound above for the third: each has a least and a most.
         */
        boolean dealsBehind(int first, int rest, int stages) {
            if (needBeside(BEHIND_FIRST, first) > rest) {
                return false;
            }
            for (int s = 1; s < MOST_STAGES; s++) {
                int room = rest - needBeside(BEHIND_FIRST & ~(1 << s), first);
                low[s] = s < stages ? Math.max(1, needBeside(1 << s, first)) : 0;
                high[s] = s < stages ? room : Math.min(0, room);
                if (low[s] > high[s]) {
                    return false;
                }
            }
            if (low[1] + low[2] + low[3] > rest || high[1] + high[2] + high[3] < rest) {
                return false;
            }
            found[1] = Math.max(low[1], rest - high[2] - high[3]);
            found[2] = Math.max(low[2], rest - found[1] - high[3]);
            found[3] = rest - found[1] - found[2];
            return true;
        }

        /** What a row of stages without the first one needs, be it with the first one or alone. */
        int needBeside(int row, int first) {
            return Math.max(needs[row], needs[row | 1] - first);
        }
    }

    /** Two or three junctions that are passed one behind the other, there (0) and back (1). */
    private static final class Way {
        private static final int HALF = 45;

        final Plan[] plans = new Plan[MOST_STOPS];
        // At direction * MOST_STOPS + stop: the stream, and the time from the way's beginning.
        final int[] streams = new int[2 * MOST_STOPS];
        final int[] times = new int[2 * MOST_STOPS];
        // For each of these and each offset the green seconds, as bits: two halves of a cycle.
        final long[] early = new long[2 * MOST_STOPS * MOST_CYCLE];
        final long[] late = new long[2 * MOST_STOPS * MOST_CYCLE];
        int stops;
        int bestLesser;
        int bestSum;
        int bestSecond;
        int bestThird;

        void add(Plan plan, int there, int back, int timeThere, int timeBack) {
            plans[stops] = plan;
            streams[stops] = there;
            streams[MOST_STOPS + stops] = back;
            times[stops] = timeThere;
            times[MOST_STOPS + stops] = timeBack;
            stops++;
        }

        int passing(int direction) {
            int found = 0;
            for (int t = 0; t < plans[0].cycle; t++) {
                if (passes(direction, t)) {
                    found++;
                }
            }
            return found;
        }

        boolean passes(int direction, int t) {
            for (int s = 0; s < stops; s++) {
                int leg = direction * MOST_STOPS + s;
                if (!plans[s].shows(streams[leg], t + times[leg])) {
                    return false;
                }
            }
            return true;
        }

        void findBest() {
            int cycle = plans[0].cycle;
            int thirds = stops == MOST_STOPS ? cycle : 1;
            layGreens();
            bestLesser = -1;
            bestSum = -1;
            for (int second = 0; second < cycle; second++) {
                for (int third = 0; third < thirds; third++) {
                    keepIfBetter(second, third);
                }
            }
        }

        void keepIfBetter(int second, int third) {
            int there = passingBy(0, second, third);
            int back = passingBy(1, second, third);
            int lesser = Math.min(there, back);
            if (lesser > bestLesser || lesser == bestLesser && there + back > bestSum) {
                bestLesser = lesser;
                bestSum = there + back;
                bestSecond = second;
                bestThird = third;
            }
        }

        int passingBy(int direction, int second, int third) {
            int a = direction * MOST_STOPS * MOST_CYCLE + plans[0].shift;
            int b = (direction * MOST_STOPS + 1) * MOST_CYCLE + second;
            int c = (direction * MOST_STOPS + 2) * MOST_CYCLE + third;
            return Long.bitCount(early[a] & early[b] & early[c])
                    + Long.bitCount(late[a] & late[b] & late[c]);
        }

        void layGreens() {
            for (int leg = 0; leg < 2 * MOST_STOPS; leg++) {
                int stop = leg % MOST_STOPS;
                if (stop < stops) {
                    layOffsets(leg, plans[stop]);
                } else {
                    // A junction that isn't there stops nobody.
                    early[leg * MOST_CYCLE] = -1L;
                    late[leg * MOST_CYCLE] = -1L;
                }
            }
        }

        void layOffsets(int leg, Plan plan) {
            for (int offset = 0; offset < plan.cycle; offset++) {
                int row = leg * MOST_CYCLE + offset;
                int place = Math.floorMod(times[leg] - offset, plan.cycle);
                early[row] = 0L;
                late[row] = 0L;
                for (int t = 0; t < plan.cycle; t++) {
                    long green = plan.lamps[place] >> streams[leg] & 1;
                    if (t < HALF) {
                        early[row] |= green << t;
                    } else {
                        late[row] |= green << (t - HALF);
                    }
                    place = place + 1 < plan.cycle ? place + 1 : 0;
                }
            }
        }
    }
}
