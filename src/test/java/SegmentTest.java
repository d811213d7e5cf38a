/** Promises 18 to 22: segmentations. */
public final class SegmentTest {
    private static final long ONE = 720720;
    private static final Check CHECK = new Check();

    public static void main(String[] args) {
        breaksAreYears();
        fewestBreaks();
        earliestBreaks();
        leastRuns();
        shortSeries();
        emptySeries();
        costs();
        spreadsWithBreaks();
        spreadsOfSixteenYears();
        breaksWithPenalties();
        leastPenalties();
        greatestPenalties();
        wrongCalls();
        CHECK.end();
    }

    private static void split(String what, ShiftMender m, int... years) {
        CHECK.due(what + ": split(0, 1, -1)", m.split(0, 1, -1), years.length);
        CHECK.due(what + ": split(1, 0, -1)", m.split(1, 0, -1), years.length);
        for (int k = 0; k < years.length; k++) {
            CHECK.due(what + ": split(0, 1, " + k + ")", m.split(0, 1, k), years[k]);
            CHECK.due(what + ": split(1, 0, " + k + ")", m.split(1, 0, k), years[k]);
        }
        CHECK.due(what + ": one break more", m.split(0, 1, years.length), -4);
        CHECK.due(what + ": far too many", m.split(0, 1, Integer.MAX_VALUE), -4);
    }

    private static void breaksAreYears() {
        split("two levels", Laid.series(2, 20, 0, 0, 0, 9, 9, 9), 3);
        split("a year is missing at the break", Laid.series(2, 20, 0, null, 0, null, 9, 9), 4);
        split("the first years are missing", Laid.series(1, 20, null, null, 0, 9, null, 0), 3, 5);
        split("no break", Laid.series(2, 20, 3, 3, 3, 3, 3));
        split("three levels", Laid.series(2, 20, 0, 0, 9, 9, 0, 0, 0, -9, -9), 2, 4, 7);
        split("sixteen runs", Laid.series(1, 1, 0, 9, 0, 9, 0, 9, 0, 9, 0, 9, 0, 9, 0, 9, 0, 9),
            1, 2, 3, 4, 5, 6, 7, 8, 9, 10, 11, 12, 13, 14, 15);
    }

    private static void fewestBreaks() {
        split("a break that saves just its penalty", Laid.series(2, 4, 0, 0, 2, 2));
        split("a break that saves one more", Laid.series(2, 3, 0, 0, 2, 2), 2);
        split("equal values for nothing", Laid.series(1, 0, 5, 5, 5, 5));
        split("equal values with a shift for nothing", Laid.series(1, 0, 5, 5, 6, 6), 2);
        // one break, behind the first two, saves 36; both breaks save 36 more, for 36 each
        split("two equal shifts", Laid.series(2, 72, 0, 0, 6, 6, 12, 12), 2);
    }

    private static void earliestBreaks() {
        // with one break 1/2 is left, whether it is in front of the 1 or behind it
        split("0 1 2", Laid.series(1, 1, 0, 1, 2, null), 1);
        split("0 1 2, the first year missing", Laid.series(1, 1, null, 0, 1, 2), 2);
        // the second break is free to be in front of the 10 or behind it; the first one is fixed
        split("the second break", Laid.series(1, 60, 0, 100, 110, 120), 1, 2);
        // here it is the first one that is free
        split("the first break", Laid.series(1, 60, 0, 10, 20, 120), 1, 3);
        ShiftMender ends = Laid.series(2, 5, 0, 0, 2, 4, 4, 4, 2, 0, 0);
        split("both ends free", ends, earliestOf(ends));
    }

    /** The spreads of the entries from one index to another one, each asked once. */
    private static long[][] spreadsOf(ShiftMender m) {
        int n = m.entry(0, 1, -1);
        long[][] spreads = new long[n][n];
        for (int i = 0; i < n; i++) {
            for (int j = i; j < n; j++) {
                spreads[i][j] = m.spread(0, 1, i, j);
            }
        }
        return spreads;
    }

    /** The breaks of all segmentations, compared one by one; for runs of two and a penalty of 5. */
    private static int[] earliestOf(ShiftMender m) {
        long[][] spreads = spreadsOf(m);
        int n = spreads.length;
        long least = Long.MAX_VALUE;
        String best = null;
        for (int mask = 0; mask < 1 << n; mask += 2) {
            long cost = 0;
            int from = 0;
            boolean fine = true;
            StringBuilder breaks = new StringBuilder();
            for (int i = 1; i <= n; i++) {
                if (i == n || (mask >> i & 1) == 1) {
                    fine &= i - from >= 2;
                    cost += spreads[from][i - 1] + (i == n ? 0 : 5 * ONE);
                    breaks.append(i == n ? "" : i + " ");
                    from = i;
                }
            }
            boolean better = cost < least || cost == least && (breaks.length() < best.length()
                || breaks.length() == best.length() && breaks.toString().compareTo(best) < 0);
            if (fine && better) {
                least = cost;
                best = breaks.toString();
            }
        }
        CHECK.due("cost(0, 1)", m.cost(0, 1), least);
        return best.isEmpty() ? new int[0]
            : java.util.Arrays.stream(best.trim().split(" ")).mapToInt(Integer::parseInt).toArray();
    }

    private static void leastRuns() {
        Integer[] row = {0, 9, 9, 9, 9, 9, 9, 0};
        split("R = 1", Laid.series(1, 1, row), 1, 7);
        CHECK.due("R = 1: spreads(0, 1, 2)", Laid.series(1, 1, row).spreads(0, 1, 2), 0);
        split("R = 2", Laid.series(2, 1, row), 2, 6);
        // no break: 121 1/2; at 3: 54 + 64 4/5; at 4: 60 3/4 twice; at 5: 64 4/5 + 54
        split("R = 3", Laid.series(3, 1, row), 3);
        split("R = 4", Laid.series(4, 1, row));
        ShiftMender m = Laid.series(4, 0, 0, 0, 0, 9, 9, 9, 9);
        split("seven entries in runs of four", m);
        m.rule(0, 3);
        split("seven entries in runs of three", m, 3);
        m.undo();
        split("in runs of four again", m);
    }

    private static void shortSeries() {
        ShiftMender m = Laid.series(4, 0, 0, 5, null, 7);
        split("three entries in runs of four", m);
        CHECK.due("cost(0, 1)", m.cost(0, 1), 26 * ONE);
        CHECK.due("spreads(0, 1, 0)", m.spreads(0, 1, 0), 26 * ONE);
        CHECK.due("spreads(0, 1, 1)", m.spreads(0, 1, 1), -4);
        CHECK.due("breaks(0, 1, 0)", m.breaks(0, 1, 0), 0);
        CHECK.due("least(0, 1, 0)", m.least(0, 1, 0), 0);
        ShiftMender one = Laid.series(4, 0, null, null, null, 7);
        split("one entry in runs of four", one);
        CHECK.due("cost(0, 1) of one entry", one.cost(0, 1), 0);
        CHECK.due("spreads(0, 1, 0) of one entry", one.spreads(0, 1, 0), 0);
        CHECK.due("spreads(0, 1, 1) of one entry", one.spreads(0, 1, 1), -4);
        one.rule(0, 1);
        split("one entry in runs of one", one);
        CHECK.due("spreads(0, 1, 1) of one entry", one.spreads(0, 1, 1), -4);
        ShiftMender all = Laid.series(4, 1, 0, 5, 6, 7);
        split("four entries in runs of four", all);
        CHECK.due("spreads(0, 1, 1) of four entries", all.spreads(0, 1, 1), -4);
    }

    private static void emptySeries() {
        for (int r = 1; r <= 4; r++) {
            ShiftMender m = Laid.series(r, 7, null, null, null, null);
            split("empty, R = " + r, m);
            CHECK.due("cost(0, 1)", m.cost(0, 1), 0);
            CHECK.due("spreads(0, 1, 0)", m.spreads(0, 1, 0), 0);
            CHECK.due("spreads(0, 1, 1)", m.spreads(0, 1, 1), -4);
            CHECK.due("spreads(0, 1, greatest)", m.spreads(0, 1, Integer.MAX_VALUE), -4);
            CHECK.due("breaks(0, 1, 0)", m.breaks(0, 1, 0), 0);
            CHECK.due("least(0, 1, 0)", m.least(0, 1, 0), 0);
            CHECK.due("least(0, 1, 9)", m.least(0, 1, 9), 0);
        }
        // what a full series left behind must not be seen in an empty one
        ShiftMender m = Laid.of("y4;s000099;s000000;s00....;p01;");
        split("full", m, 2);
        CHECK.due("spreads of the full one", m.spreads(0, 1, 0), 81 * ONE);
        CHECK.due("spreads of the empty one", m.spreads(0, 2, 0), 0);
        CHECK.due("cost of the full one", m.cost(0, 1), ONE);
        CHECK.due("cost of the empty one", m.cost(0, 2), 0);
        CHECK.due("breaks of the empty one", m.split(0, 2, -1), 0);
        CHECK.due("votes of the empty one", m.votes(2, 2), 0);
    }

    private static void costs() {
        CHECK.due("no break", Laid.series(2, 4, 0, 0, 2, 2).cost(0, 1), 4 * ONE);
        CHECK.due("one break", Laid.series(2, 3, 0, 0, 2, 2).cost(0, 1), 3 * ONE);
        CHECK.due("two breaks", Laid.series(2, 8, 0, 1, 50, 50, 7, 8).cost(0, 1), 17 * ONE);
        CHECK.due("two breaks, the other way", Laid.series(2, 8, 0, 1, 50, 50, 7, 8).cost(1, 0), 17 * ONE);
        CHECK.due("no penalty", Laid.series(1, 0, 0, 1, 50, 50, 7, 8).cost(0, 1), 0);
        CHECK.due("greatest penalty", Laid.series(1, 99999, 0, 9999, 0, 9999).cost(0, 1), 3 * 99999 * ONE);
        ShiftMender first = new ShiftMender();
        CHECK.due("a series of no pair", first.cost(0, 4), new Oracle().answer("cost", new int[] {0, 4}));
    }

    private static void spreadsWithBreaks() {
        ShiftMender m = Laid.series(2, 7, 0, 1, 50, 50, 7, 8, 8);
        CHECK.due("k = 0", m.spreads(0, 1, 0), m.spread(0, 1, 0, 6));
        long one = Long.MAX_VALUE;
        for (int i = 2; i <= 5; i++) {
            one = Math.min(one, m.spread(0, 1, 0, i - 1) + m.spread(0, 1, i, 6));
        }
        CHECK.due("k = 1", m.spreads(0, 1, 1), one);
        CHECK.due("k = 2", m.spreads(0, 1, 2), 360360 + 480480);
        CHECK.due("k = 3", m.spreads(0, 1, 3), -4);
        CHECK.due("k = greatest", m.spreads(0, 1, Integer.MAX_VALUE), -4);
        CHECK.due("the other way", m.spreads(1, 0, 2), 360360 + 480480);
        m.penalty(99999);
        CHECK.due("the penalty does not matter", m.spreads(0, 1, 2), 360360 + 480480);
        m.rule(0, 1);
        CHECK.due("R = 1, k = 3", m.spreads(0, 1, 3), 360360);
        CHECK.due("R = 1, k = 4", m.spreads(0, 1, 4), 0);
        CHECK.due("R = 1, k = 6", m.spreads(0, 1, 6), 0);
        CHECK.due("R = 1, k = 7", m.spreads(0, 1, 7), -4);
        m.rule(0, 3);
        CHECK.due("R = 3, k = 2", m.spreads(0, 1, 2), -4);
        // a break more may have to make it worse: each run has at least two entries
        ShiftMender worse = Laid.series(2, 7, 0, 0, 0, 9, 9, 9);
        CHECK.due("worse: k = 1", worse.spreads(0, 1, 1), 0);
        CHECK.due("worse: k = 2", worse.spreads(0, 1, 2), 81 * ONE / 2);
    }

    private static void spreadsOfSixteenYears() {
        for (int r = 1; r <= 4; r++) {
            ShiftMender m = Laid.series(r, 7, 3, 1, 4, 1, 5, 9, 2, 6, 5, 3, 5, 8, 9, 7, 9, 3);
            long[][] spreads = spreadsOf(m);
            for (int k = 0; k <= 17; k++) {
                long due = (k + 1) * r > 16 ? -4 : leastSum(spreads, 0, k + 1, r);
                CHECK.due("R = " + r + ": spreads(0, 1, " + k + ")", m.spreads(0, 1, k), due);
            }
        }
    }

    /** Over all ways to divide the sixteen entries from this one on into so many runs. */
    private static long leastSum(long[][] spreads, int from, int runs, int r) {
        if (runs == 1) {
            return spreads[from][15];
        }
        long least = Long.MAX_VALUE;
        for (int next = from + r; next + (runs - 1) * r <= 16; next++) {
            least = Math.min(least, spreads[from][next - 1] + leastSum(spreads, next, runs - 1, r));
        }
        return least;
    }

    private static void breaksWithPenalties() {
        ShiftMender m = Laid.series(2, 20, 0, 0, 6, 6, 12, 12);
        CHECK.due("spreads(0, 1, 0)", m.spreads(0, 1, 0), 144 * ONE);
        CHECK.due("spreads(0, 1, 1)", m.spreads(0, 1, 1), 36 * ONE);
        CHECK.due("spreads(0, 1, 2)", m.spreads(0, 1, 2), 0);
        int[][] due = {{0, 2}, {1, 2}, {35, 2}, {36, 1}, {37, 1}, {107, 1}, {108, 0}, {109, 0}, {99999, 0}};
        for (int[] d : due) {
            CHECK.due("breaks(0, 1, " + d[0] + ")", m.breaks(0, 1, d[0]), d[1]);
            CHECK.due("breaks(1, 0, " + d[0] + ")", m.breaks(1, 0, d[0]), d[1]);
        }
        CHECK.due("the penalty stays", m.count(2), 20);
        CHECK.due("breaks(0, 1, -1)", m.breaks(0, 1, -1), -1);
        CHECK.due("breaks(0, 1, 100000)", m.breaks(0, 1, 100000), -1);
        CHECK.due("breaks(0, 1, greatest)", m.breaks(0, 1, Integer.MAX_VALUE), -1);
    }

    private static void leastPenalties() {
        ShiftMender m = Laid.series(2, 20, 0, 0, 6, 6, 12, 12);
        CHECK.due("k = 0", m.least(0, 1, 0), 108);
        CHECK.due("k = 1", m.least(0, 1, 1), 36);
        CHECK.due("k = 2", m.least(0, 1, 2), 0);
        CHECK.due("k = greatest", m.least(0, 1, Integer.MAX_VALUE), 0);
        CHECK.due("the other way", m.least(1, 0, 1), 36);
        m.penalty(5);
        CHECK.due("the penalty does not matter", m.least(0, 1, 0), 108);
        // 40 1/2 is saved: not with 40, but with 41
        ShiftMender half = Laid.series(1, 20, 0, 9, null, null);
        CHECK.due("breaks(0, 1, 40)", half.breaks(0, 1, 40), 1);
        CHECK.due("breaks(0, 1, 41)", half.breaks(0, 1, 41), 0);
        CHECK.due("least(0, 1, 0)", half.least(0, 1, 0), 41);
        // from two breaks to none: one break alone saves little
        ShiftMender hill = Laid.series(2, 20, 0, 0, 9, 9, 0, 0);
        CHECK.due("hill: k = 0", hill.least(0, 1, 0), 54);
        CHECK.due("hill: k = 1", hill.least(0, 1, 1), 54);
        CHECK.due("hill: k = 2", hill.least(0, 1, 2), 0);
        CHECK.due("equal values", Laid.series(1, 20, 4, 4, 4, 4).least(0, 1, 0), 0);
    }

    private static void greatestPenalties() {
        ShiftMender m = Laid.series(1, 20, 0, -462, 159, -451);
        CHECK.due("breaks(0, 1, 99998)", m.breaks(0, 1, 99998), 3);
        CHECK.due("breaks(0, 1, 99999)", m.breaks(0, 1, 99999), 0);
        CHECK.due("least(0, 1, 0)", m.least(0, 1, 0), 99999);
        ShiftMender more = Laid.series(1, 20, 0, 522, -4, 21);
        CHECK.due("breaks(0, 1, 99999)", more.breaks(0, 1, 99999), 2);
        CHECK.due("least(0, 1, 0)", more.least(0, 1, 0), -4);
        CHECK.due("least(0, 1, 1)", more.least(0, 1, 1), -4);
        CHECK.due("least(0, 1, 3)", more.least(0, 1, 3), 0);
        ShiftMender just = Laid.series(4, 20, 0, 0, 0, 0, 0, 200, 200, 200, 200, 200);
        CHECK.due("100000 is saved", just.spreads(0, 1, 0) - just.spreads(0, 1, 1), 100000 * ONE);
        CHECK.due("least(0, 1, 0)", just.least(0, 1, 0), -4);
        CHECK.due("least(0, 1, 1)", just.least(0, 1, 1), 0);
    }

    private static void wrongCalls() {
        ShiftMender m = new ShiftMender();
        for (int[] p : SeriesTest.badPairs()) {
            String two = p[0] + ", " + p[1];
            CHECK.due("split(" + two + ", -1)", m.split(p[0], p[1], -1), -1);
            CHECK.due("split(" + two + ", 99)", m.split(p[0], p[1], 99), -1);
            CHECK.due("cost(" + two + ")", m.cost(p[0], p[1]), -1);
            CHECK.due("spreads(" + two + ", 0)", m.spreads(p[0], p[1], 0), -1);
            CHECK.due("spreads(" + two + ", 99)", m.spreads(p[0], p[1], 99), -1);
            CHECK.due("breaks(" + two + ", 0)", m.breaks(p[0], p[1], 0), -1);
            CHECK.due("least(" + two + ", 0)", m.least(p[0], p[1], 0), -1);
        }
        for (int k : new int[] {-1, -2, Integer.MIN_VALUE}) {
            CHECK.due("spreads(0, 1, " + k + ")", m.spreads(0, 1, k), -1);
            CHECK.due("least(0, 1, " + k + ")", m.least(0, 1, k), -1);
            CHECK.due("split(0, 1, " + k + ")", m.split(0, 1, k), k == -1 ? 2 : -1);
        }
    }
}
