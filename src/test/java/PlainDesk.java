import java.util.ArrayList;
import java.util.List;

/**
 * The document once more, as plainly as it can be put: everything is counted out anew at each
 * call, by trying all there is. It shares no code and no idea with GreenDesk, so that the two
 * can be held against one another.
 */
final class PlainDesk {
    private static final int NONE = -1;

    private static final class Road {
        Lane end;
        int time;
        int room;
        final List<Integer> arrivals = new ArrayList<>();
    }

    private static final class Lane {
        int kind;
        int count;
        int rate;
        int least;
        int account;
        int credit;
        int waits;
        int came;
        int left;
        int stops;
        int most;
        long wait;
        boolean wasGreen;
        Road road;
        final List<Road> to = new ArrayList<>();
    }

    private static final class Scheme {
        int cycle;
        int offset;
        int torn;
        final List<int[]> stages = new ArrayList<>();
    }

    private static final class Cross {
        final List<Lane> lanes = new ArrayList<>();
        final int[][] gap = new int[8][8];
        final boolean[][] yields = new boolean[8][8];
        final List<boolean[]> past = new ArrayList<>();
        Scheme begun;
        Scheme taken;
        boolean flashes;
        int clearFrom = -1000;

        boolean clash(int i, int j) {
            return gap[i][j] > 0 && !yields[i][j] && !yields[j][i];
        }

        boolean isSet(int bits) {
            if (bits < 0 || bits >= Math.pow(2, lanes.size())) {
                return false;
            }
            for (int i = 0; i < lanes.size(); i++) {
                for (int j = 0; j < lanes.size(); j++) {
                    if (has(bits, i) && has(bits, j) && clash(i, j)) {
                        return false;
                    }
                }
            }
            return true;
        }

        int between(Scheme scheme, int s) {
            int now = scheme.stages.get(s)[0];
            int next = scheme.stages.get((s + 1) % scheme.stages.size())[0];
            int most = 0;
            for (int i = 0; i < lanes.size(); i++) {
                for (int j = 0; j < lanes.size(); j++) {
                    if (has(now, i) && !has(next, i) && has(next, j) && !has(now, j) && clash(i, j)) {
                        most = Math.max(most, gap[i][j]);
                    }
                }
            }
            return most;
        }

        int betweens(Scheme scheme) {
            int sum = 0;
            for (int s = 0; s < scheme.stages.size(); s++) {
                sum += between(scheme, s);
            }
            return sum;
        }

        boolean green(Scheme scheme, int i, int place) {
            int left = place;
            for (int s = 0; s < scheme.stages.size(); s++) {
                int now = scheme.stages.get(s)[0];
                int next = scheme.stages.get((s + 1) % scheme.stages.size())[0];
                if (left < scheme.stages.get(s)[1]) {
                    return has(now, i);
                }
                left -= scheme.stages.get(s)[1];
                if (left < between(scheme, s)) {
                    return has(now, i) && has(next, i);
                }
                left -= between(scheme, s);
            }
            throw new IllegalStateException("beyond the cycle");
        }

        int stageAt(Scheme scheme, int place) {
            int end = 0;
            for (int s = 0; s < scheme.stages.size(); s++) {
                end += scheme.stages.get(s)[1] + between(scheme, s);
                if (place < end) {
                    return s;
                }
            }
            throw new IllegalStateException("beyond the cycle");
        }

        boolean greenAt(int i, int second) {
            return green(taken, i, mod(second - taken.offset, taken.cycle));
        }
    }

    private final List<Cross> all = new ArrayList<>();
    private int second = 0;
    private int[] why = {NONE, NONE, NONE};

    private static boolean has(int bits, int i) {
        return (bits & (1 << i)) != 0;
    }

    private static int mod(int a, int b) {
        return ((a % b) + b) % b;
    }

    private Cross cross(int k) {
        return k >= 0 && k < all.size() ? all.get(k) : null;
    }

    private Lane lane(int k, int i) {
        Cross c = cross(k);
        return c != null && i >= 0 && i < c.lanes.size() ? c.lanes.get(i) : null;
    }

    int junction() {
        if (all.size() == 8 || second > 0) {
            return NONE;
        }
        all.add(new Cross());
        return all.size() - 1;
    }

    int stream(int junction, int kind, int count, int rate, int least) {
        Cross c = cross(junction);
        if (c == null || c.lanes.size() == 8 || c.begun != null || c.taken != null || second > 0
                || kind < 0 || kind > 3 || count < 0 || count > 3600 || least < 4 || least > 30) {
            return NONE;
        }
        if (kind < 2 && (rate < 600 || rate > 3600)) {
            return NONE;
        }
        Lane lane = new Lane();
        lane.kind = kind;
        lane.count = count;
        lane.rate = kind == 2 ? 3600 : kind == 3 ? 1200 : rate;
        lane.least = kind == 1 && least < 5 ? 5 : kind == 2 && least < 8 ? 8 : least;
        c.lanes.add(lane);
        return c.lanes.size() - 1;
    }

    boolean against(int junction, int i, int j, int there, int back) {
        Cross c = cross(junction);
        if (lane(junction, i) == null || lane(junction, j) == null || i == j || there < 1 || there > 20
                || back < 1 || back > 20 || c.begun != null || c.taken != null) {
            return false;
        }
        c.gap[i][j] = there;
        c.gap[j][i] = back;
        return true;
    }

    boolean yields(int junction, int i, int j) {
        Cross c = cross(junction);
        if (lane(junction, i) == null || lane(junction, j) == null || c.begun != null || c.taken != null
                || lane(junction, i).kind != 1 || lane(junction, j).kind == 1 || c.gap[i][j] == 0
                || c.yields[i][j]) {
            return false;
        }
        c.yields[i][j] = true;
        return true;
    }

    boolean street(int junction, int i, int other, int j, int time, int room) {
        Lane from = lane(junction, i);
        Lane to = lane(other, j);
        if (from == null || to == null || junction == other || time < 1 || time > 60 || room < 1
                || room > 60 || from.road != null || second > 0) {
            return false;
        }
        from.road = new Road();
        from.road.end = to;
        from.road.time = time;
        from.road.room = room;
        to.to.add(from.road);
        return true;
    }

    private List<Integer> greatest(Cross c) {
        List<Integer> found = new ArrayList<>();
        for (int bits = 1; bits < 256; bits++) {
            boolean more = false;
            for (int i = 0; i < 8; i++) {
                more |= !has(bits, i) && c.isSet(bits | 1 << i);
            }
            if (c.isSet(bits) && !more) {
                found.add(bits);
            }
        }
        return found;
    }

    int sets(int junction) {
        return cross(junction) == null ? NONE : greatest(cross(junction)).size();
    }

    int set(int junction, int k) {
        if (cross(junction) == null || k < 0 || k >= greatest(cross(junction)).size()) {
            return NONE;
        }
        return greatest(cross(junction)).get(k);
    }

    boolean goes(int junction, int bits) {
        return cross(junction) != null && cross(junction).isSet(bits);
    }

    boolean plan(int junction, int cycle) {
        if (cross(junction) == null || cycle < 20 || cycle > 90) {
            return false;
        }
        cross(junction).begun = new Scheme();
        cross(junction).begun.cycle = cycle;
        return true;
    }

    int stage(int junction, int bits, int green) {
        Cross c = cross(junction);
        if (c == null || c.begun == null || bits == 0 || !c.isSet(bits) || green < 0 || green > 90
                || c.begun.stages.size() == 4) {
            return NONE;
        }
        c.begun.stages.add(new int[] {bits, green});
        return c.begun.stages.size() - 1;
    }

    int take(int junction, int offset) {
        Cross c = cross(junction);
        if (c == null || c.begun == null || offset < 0 || offset >= c.begun.cycle) {
            return 1;
        }
        if (c.begun.stages.size() < 2) {
            return 2;
        }
        int sum = c.betweens(c.begun);
        for (int[] stage : c.begun.stages) {
            if (stage[1] < 1) {
                return 3;
            }
            sum += stage[1];
        }
        if (sum != c.begun.cycle) {
            return 4;
        }
        int[] reason = shortGreen(c);
        if (reason != null) {
            why = reason;
            return 5;
        }
        reason = tooNear(c);
        if (reason != null) {
            why = reason;
            return 6;
        }
        c.taken = c.begun;
        c.taken.offset = offset;
        c.taken.torn = c.taken.stages.size();
        c.begun = null;
        c.flashes = false;
        if (second > 0) {
            c.clearFrom = second;
        }
        return 0;
    }

    private int[] shortGreen(Cross c) {
        int cycle = c.begun.cycle;
        for (int t = 0; t < cycle; t++) {
            for (int i = 0; i < c.lanes.size(); i++) {
                if (!c.green(c.begun, i, t) || c.green(c.begun, i, mod(t - 1, cycle))) {
                    continue;
                }
                int length = 0;
                while (c.green(c.begun, i, mod(t + length, cycle))) {
                    length++;
                }
                if (length < c.lanes.get(i).least) {
                    return new int[] {t, i, NONE};
                }
            }
        }
        return null;
    }

    private int[] tooNear(Cross c) {
        int cycle = c.begun.cycle;
        boolean[][] lit = new boolean[cycle][c.lanes.size()];
        for (int t = 0; t < cycle; t++) {
            for (int i = 0; i < c.lanes.size(); i++) {
                lit[t][i] = c.green(c.begun, i, t);
            }
        }
        for (int t = 0; t < cycle; t++) {
            for (int j = 0; j < c.lanes.size(); j++) {
                for (int i = 0; i < c.lanes.size(); i++) {
                    if (!c.clash(i, j) || !lit[t][j]) {
                        continue;
                    }
                    for (int back = 0; back <= c.gap[i][j]; back++) {
                        if (lit[mod(t - back, cycle)][i]) {
                            return new int[] {t, i, j};
                        }
                    }
                }
            }
        }
        return null;
    }

    int why(int what) {
        return what < 0 || what > 2 ? NONE : why[what];
    }

    int told(int junction, int what) {
        Cross c = cross(junction);
        if (c == null || c.taken == null) {
            return NONE;
        }
        int n = c.taken.stages.size();
        if (what == 0) {
            return c.taken.cycle;
        } else if (what == 1) {
            return c.taken.offset;
        } else if (what == 2) {
            return n;
        } else if (what == 3) {
            return c.betweens(c.taken);
        } else if (what >= 10 && what < 10 + n) {
            return c.taken.stages.get(what - 10)[0];
        } else if (what >= 20 && what < 20 + n) {
            return what - 20 < c.taken.torn ? c.taken.stages.get(what - 20)[1] : NONE;
        } else if (what >= 30 && what < 30 + n) {
            return c.between(c.taken, what - 30);
        }
        return NONE;
    }

    boolean offset(int junction, int offset) {
        Cross c = cross(junction);
        if (c == null || c.taken == null || offset < 0 || offset >= c.taken.cycle
                || offset == c.taken.offset) {
            return false;
        }
        c.taken.offset = offset;
        if (second > 0) {
            c.clearFrom = second;
        }
        return true;
    }

    boolean tear(int junction, int n) {
        Cross c = cross(junction);
        if (c == null || c.taken == null || n < 0 || n > c.taken.stages.size()) {
            return false;
        }
        if (n < c.taken.torn) {
            c.taken.torn = n;
        }
        return true;
    }

    /** All rows of greens that add up to a total, in their order. */
    private static void deal(int stages, int total, int[] row, int at, List<int[]> into) {
        if (at == stages - 1) {
            if (total >= 1) {
                row[at] = total;
                into.add(row.clone());
            }
            return;
        }
        for (int g = 1; g < total; g++) {
            row[at] = g;
            deal(stages, total - g, row, at + 1, into);
        }
    }

    private static int sum(Scheme scheme, int[] greens, int i) {
        int sum = 0;
        for (int s = 0; s < greens.length; s++) {
            if (has(scheme.stages.get(s)[0], i)) {
                sum += greens[s];
            }
        }
        return sum;
    }

    int share(int junction) {
        Cross c = cross(junction);
        if (c == null || c.begun == null || c.begun.stages.size() < 2) {
            return NONE;
        }
        int n = c.begun.stages.size();
        for (int cycle = 20; cycle <= 90; cycle++) {
            List<int[]> rows = new ArrayList<>();
            deal(n, cycle - c.betweens(c.begun), new int[n], 0, rows);
            for (int[] row : rows) {
                boolean enough = true;
                for (int i = 0; i < c.lanes.size(); i++) {
                    Lane lane = c.lanes.get(i);
                    enough &= lane.rate * sum(c.begun, row, i) >= lane.count * cycle;
                }
                if (enough) {
                    return cycle;
                }
            }
        }
        return NONE;
    }

    boolean fit(int junction, int cycle) {
        Cross c = cross(junction);
        if (c == null || c.begun == null || c.begun.stages.size() < 2 || cycle < 20 || cycle > 90) {
            return false;
        }
        int n = c.begun.stages.size();
        List<int[]> rows = new ArrayList<>();
        deal(n, cycle - c.betweens(c.begun), new int[n], 0, rows);
        if (rows.isEmpty()) {
            return false;
        }
        int[] best = null;
        long bestTop = 0;
        long bestBottom = 1;
        for (int[] row : rows) {
            long top = 0;
            long bottom = 1;
            for (int i = 0; i < c.lanes.size(); i++) {
                long load = (long) c.lanes.get(i).count * cycle;
                long by = (long) c.lanes.get(i).rate * sum(c.begun, row, i);
                if (by > 0 && load * bottom > top * by) {
                    top = load;
                    bottom = by;
                }
            }
            if (best == null || top * bestBottom < bestTop * bottom) {
                best = row;
                bestTop = top;
                bestBottom = bottom;
            }
        }
        for (int s = 0; s < n; s++) {
            c.begun.stages.get(s)[1] = best[s];
        }
        c.begun.cycle = cycle;
        return true;
    }

    int green(int junction, int s) {
        Cross c = cross(junction);
        return c == null || c.begun == null || s < 0 || s >= c.begun.stages.size()
                ? NONE : c.begun.stages.get(s)[1];
    }

    int lamp(int junction, int i, int at) {
        if (lane(junction, i) == null || at < 0 || at > 1000000) {
            return NONE;
        }
        return cross(junction).taken != null && cross(junction).greenAt(i, at) ? 1 : 0;
    }

    int run(int n) {
        if (n < 0 || n > 300 || second + n > 100000) {
            return NONE;
        }
        for (int k = 0; k < n; k++) {
            for (Cross c : all) {
                step(c);
            }
            second++;
        }
        return second;
    }

    private void step(Cross c) {
        if (c.taken != null) {
            int place = mod(second - c.taken.offset, c.taken.cycle);
            if (c.taken.torn <= c.stageAt(c.taken, place)) {
                c.flashes = true;
            }
        }
        boolean dark = c.taken == null || c.flashes || second < c.clearFrom + 20;
        boolean[] lit = new boolean[8];
        for (int i = 0; i < c.lanes.size(); i++) {
            lit[i] = !dark && c.greenAt(i, second);
            step(c.lanes.get(i), lit[i]);
        }
        c.past.add(lit);
    }

    private void step(Lane lane, boolean green) {
        lane.wasGreen = green;
        int coming = 0;
        lane.account += lane.count;
        if (lane.account >= 3600) {
            lane.account -= 3600;
            coming++;
        }
        for (Road road : lane.to) {
            while (road.arrivals.remove((Integer) second)) {
                coming++;
            }
        }
        for (int k = 0; k < coming; k++) {
            if (!green || lane.waits > 0) {
                lane.stops++;
            }
            lane.came++;
            lane.waits++;
        }
        lane.credit = green ? lane.credit + lane.rate : 0;
        boolean full = lane.road != null
                && lane.road.arrivals.size() + lane.road.end.waits >= lane.road.room;
        if (lane.credit >= 3600 && lane.waits > 0 && !full) {
            lane.waits--;
            lane.left++;
            lane.credit -= 3600;
            if (lane.road != null) {
                lane.road.arrivals.add(second + lane.road.time);
            }
        }
        lane.credit = Math.min(3600, lane.credit);
        lane.wait += lane.waits;
        lane.most = Math.max(lane.most, lane.waits);
    }

    long queue(int junction, int i, int what) {
        Lane lane = lane(junction, i);
        if (lane == null || what < 0 || what > 11) {
            return NONE;
        }
        long[] told = {lane.waits, lane.came, lane.left, lane.wait, lane.stops, lane.most,
            lane.road == null ? NONE : lane.road.arrivals.size(), lane.kind, lane.rate, lane.least,
            lane.count, lane.wasGreen ? 1 : 0};
        return told[what];
    }

    int count(int what) {
        int flash = 0;
        for (Cross c : all) {
            flash += c.flashes ? 1 : 0;
        }
        return what == 0 ? all.size() : what == 1 ? second : what == 2 ? flash : NONE;
    }

    boolean flashes(int junction) {
        return cross(junction) != null && cross(junction).flashes;
    }

    /** The junctions of a way, or null where it isn't as told. */
    private Cross[] way(int[] w) {
        int n = w[2] == NONE ? 2 : 3;
        if (n == 2 && (w[6] != 0 || w[3] > 99 || w[4] > 99)) {
            return null;
        }
        if (w[3] < 0 || w[3] > 999 || w[4] < 0 || w[4] > 999 || w[5] < 0 || w[5] > 120 || w[6] < 0
                || w[6] > 120) {
            return null;
        }
        Cross[] way = new Cross[n];
        for (int k = 0; k < n; k++) {
            way[k] = cross(w[k]);
            if (lane(w[k], digit(w[3], k)) == null || lane(w[k], digit(w[4], k)) == null
                    || way[k].taken == null || way[k].taken.cycle != way[0].taken.cycle) {
                return null;
            }
            for (int m = 0; m < k; m++) {
                if (w[m] == w[k]) {
                    return null;
                }
            }
        }
        return way;
    }

    private static int digit(int number, int k) {
        return k == 0 ? number % 10 : k == 1 ? number / 10 % 10 : number / 100;
    }

    private static boolean[][] lit(Cross[] way, int lanes) {
        boolean[][] lit = new boolean[way.length][];
        for (int k = 0; k < way.length; k++) {
            lit[k] = new boolean[way[0].taken.cycle];
            for (int t = 0; t < lit[k].length; t++) {
                lit[k][t] = way[k].green(way[k].taken, digit(lanes, k), t);
            }
        }
        return lit;
    }

    private static int passing(boolean[][] lit, int[] offsets, int p, int q, boolean there) {
        int cycle = lit[0].length;
        int n = lit.length;
        int found = 0;
        for (int t = 0; t < cycle; t++) {
            int at = t;
            boolean all = true;
            for (int k = 0; k < n; k++) {
                int m = there ? k : n - 1 - k;
                all &= lit[m][mod(at - offsets[m], cycle)];
                int next = there ? m + 1 : m - 1;
                at += Math.min(m, next) == 0 ? p : q;
            }
            found += all ? 1 : 0;
        }
        return found;
    }

    int width(int[] w, int what) {
        Cross[] way = way(w);
        if (way == null || what < 0 || what > 1) {
            return NONE;
        }
        int[] offsets = new int[way.length];
        for (int k = 0; k < way.length; k++) {
            offsets[k] = way[k].taken.offset;
        }
        return passing(lit(way, what == 0 ? w[3] : w[4]), offsets, w[5], w[6], what == 0);
    }

    int wave(int[] w, int what) {
        Cross[] way = way(w);
        if (way == null || what < 0 || what > 2) {
            return NONE;
        }
        boolean[][] there = lit(way, w[3]);
        boolean[][] back = lit(way, w[4]);
        int[] best = null;
        for (int b = 0; b < way[0].taken.cycle; b++) {
            for (int c = 0; c < (way.length == 3 ? way[0].taken.cycle : 1); c++) {
                int[] offsets = {way[0].taken.offset, b, c};
                int go = passing(there, offsets, w[5], w[6], true);
                int come = passing(back, offsets, w[5], w[6], false);
                int[] now = {Math.min(go, come), b, c, go + come};
                if (best == null || now[0] > best[0] || now[0] == best[0] && now[3] > best[3]) {
                    best = now;
                }
            }
        }
        return what == 2 && way.length == 2 ? NONE : best[what];
    }

    int check(int junction, int i, int at) {
        Cross c = cross(junction);
        int from = Math.max(0, second - 200);
        if (c == null || at != NONE && (lane(junction, i) == null || at < from || at >= second)) {
            return -2;
        }
        for (int t = from; t < second; t++) {
            for (int x = 0; x < c.lanes.size(); x++) {
                for (int y = 0; y < c.lanes.size(); y++) {
                    for (int back = 0; c.clash(x, y) && back <= c.gap[x][y]; back++) {
                        if (t - back >= from && seen(c, y, t, i, at) && seen(c, x, t - back, i, at)) {
                            return t;
                        }
                    }
                }
            }
        }
        return NONE;
    }

    private static boolean seen(Cross c, int x, int t, int i, int at) {
        return c.past.get(t)[x] != (t == at && x == i);
    }
}
