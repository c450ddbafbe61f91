/** Rows of greens, all of which are tried: the greatest loads of two are compared as exact parts. */
final class Rows {
    private final int[][] countsAndRates;
    private final int[] sets;
    private final int[] row;
    private int[] best = null;
    private long bestCount = 0;
    private long bestService = 1;

    private Rows(int[][] countsAndRates, int[] sets) {
        this.countsAndRates = countsAndRates;
        this.sets = sets;
        this.row = new int[sets.length];
    }

    /** The fittest greens, without betweens, for streams of these counts and rates. */
    static int[] fittest(int[][] countsAndRates, int[] sets, int cycle) {
        Rows rows = new Rows(countsAndRates, sets);
        rows.deal(0, cycle);
        return rows.best;
    }

    private void deal(int s, int left) {
        if (s == sets.length - 1) {
            row[s] = left;
            keepIfBetter();
            return;
        }
        for (int green = 1; green <= left - (sets.length - 1 - s); green++) {
            row[s] = green;
            deal(s + 1, left - green);
        }
    }

    private void keepIfBetter() {
        long count = 0;
        long service = 1;
        for (int i = 0; i < countsAndRates.length; i++) {
            long by = (long) countsAndRates[i][1] * greenOf(i);
            if (by > 0 && countsAndRates[i][0] * service > count * by) {
                count = countsAndRates[i][0];
                service = by;
            }
        }
        if (best == null || count * bestService < bestCount * service) {
            best = row.clone();
            bestCount = count;
            bestService = service;
        }
    }

    private int greenOf(int i) {
        int sum = 0;
        for (int s = 0; s < sets.length; s++) {
            sum += (sets[s] >> i & 1) * row[s];
        }
        return sum;
    }
}
