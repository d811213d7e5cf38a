import java.util.ArrayList;
import java.util.List;
import java.util.function.Supplier;

/** The sentences about segmentations: SEGMENTATIONS, promises 18 to 22. */
final class SegmentSentences {
    private static final int LEAST = Integer.MIN_VALUE;
    private static final int GREATEST = Integer.MAX_VALUE;
    private static final long ONE = 720720;

    private final Sentences s;
    private final Check check;
    private final Refused refused;

    SegmentSentences(Sentences s, Check check) {
        this.s = s;
        this.check = check;
        this.refused = new Refused(check);
    }

    void all() {
        runs();
        costs();
        best();
        split();
        cost();
        spreads();
        breaks();
        least();
    }

    private void splitIs(String what, ShiftMender m, int... years) {
        check.due(what + ": split(0, 1, -1)", m.split(0, 1, -1), years.length);
        check.due(what + ": split(1, 0, -1)", m.split(1, 0, -1), years.length);
        for (int k = 0; k < years.length; k++) {
            check.due(what + ": split(0, 1, " + k + ")", m.split(0, 1, k), years[k]);
            check.due(what + ": split(1, 0, " + k + ")", m.split(1, 0, k), years[k]);
        }
        check.due(what + ": split(0, 1, " + years.length + ")", m.split(0, 1, years.length), -4);
    }

    /** A series of so many entries: zeros, then so many nines; missing years up to the least number of years. */
    private static ShiftMender zerosAndNines(int leastRun, int penalty, int zeros, int nines) {
        List<Integer> row = new ArrayList<>();
        for (int i = 0; i < zeros + nines; i++) {
            row.add(i < zeros ? 0 : 9);
        }
        while (row.size() < 4) {
            row.add(null);
        }
        return Laid.series(leastRun, penalty, row.toArray(new Integer[0]));
    }

    private static ShiftMender noEntries(int leastRun, int penalty) {
        return zerosAndNines(leastRun, penalty, 0, 0);
    }

    // ---- SEGMENTATIONS

    private void runs() {
        s.under("SEGMENTATIONS");
        s.test("A segmentation divides a series into runs of successive entries, each of R or more entries", () -> {
            for (int r = 1; r <= 4; r++) {
                splitIs("R and R entries, R = " + r, zerosAndNines(r, 0, r, r), r);
                splitIs("2 R - 1 entries, R = " + r, zerosAndNines(r, 0, r, r - 1));
                check.due("R = " + r + ": spreads(0, 1, 1)", zerosAndNines(r, 0, r, r).spreads(0, 1, 1), 0);
                check.due("R = " + r + ": one entry fewer", zerosAndNines(r, 0, r, r - 1).spreads(0, 1, 1), -4);
                // a run of R - 1 nines at either end can't stand alone
                if (r > 1) {
                    splitIs("short end, R = " + r, zerosAndNines(r, 0, 9, r - 1), 9 - 1);
                    splitIs("short beginning, R = " + r, zerosAndNines(r, 0, r - 1, 9), r);
                }
            }
            // entries are successive if nothing but missing years is between them
            splitIs("gaps", Laid.series(2, 1, 0, null, null, 0, null, 9, null, null, 9), 5);
        });
        s.test("a series with at least one, but fewer than R entries is one run", () -> {
            for (int r = 1; r <= 4; r++) {
                for (int n = 1; n <= r; n++) {
                    ShiftMender m = zerosAndNines(r, 0, n - 1, 1);
                    String what = n + " entries, R = " + r;
                    long due = 81 * ONE / n * (n - 1);
                    splitIs(what, m);
                    check.due(what + ": cost", m.cost(0, 1), due);
                    check.due(what + ": spreads(0, 1, 0)", m.spreads(0, 1, 0), due);
                    check.due(what + ": spreads(0, 1, 1)", m.spreads(0, 1, 1), -4);
                    check.due(what + ": breaks(0, 1, 0)", m.breaks(0, 1, 0), 0);
                    check.due(what + ": least(0, 1, 0)", m.least(0, 1, 0), 0);
                    check.due(what + ": votes", m.votes(0, n - 1), 0);
                }
            }
        });
        s.test("a series without entries has no runs, and only the segmentation without breaks, which costs nothing",
            () -> {
                for (int r = 1; r <= 4; r++) {
                    for (int p : new int[] {0, 99999}) {
                        ShiftMender m = noEntries(r, p);
                        String what = "no entries, R = " + r;
                        splitIs(what, m);
                        check.due(what + ": cost", m.cost(0, 1), 0);
                        check.due(what + ": spreads(0, 1, 0)", m.spreads(0, 1, 0), 0);
                        check.due(what + ": spreads(0, 1, 1)", m.spreads(0, 1, 1), -4);
                        check.due(what + ": breaks(0, 1, 0)", m.breaks(0, 1, 0), 0);
                        check.due(what + ": least(0, 1, 0)", m.least(0, 1, 0), 0);
                    }
                }
                // after a series with much in it
                ShiftMender m = Laid.of("y4;s000099;s000000;s00....;l2110;p01;");
                check.due("cost(0, 1)", m.cost(0, 1), ONE);
                check.due("cost(0, 2) after it", m.cost(0, 2), 0);
                check.due("spreads(0, 1, 0)", m.spreads(0, 1, 0), 81 * ONE);
                check.due("spreads(0, 2, 0) after it", m.spreads(0, 2, 0), 0);
                check.due("split(0, 2, -1) after it", m.split(0, 2, -1), 0);
            });
        s.test("The breaks are the years of the first entries of all runs except the first one", () -> {
            splitIs("from year 0", Laid.series(2, 20, 0, 0, 9, 9), 2);
            splitIs("the first years missing", Laid.series(1, 20, null, null, 0, 9, null, 0), 3, 5);
            splitIs("missing at the break", Laid.series(2, 20, 0, null, 0, null, 9, 9), 4);
            splitIs("all years", Laid.series(1, 1, 0, 9, 0, 9, 0, 9, 0, 9, 0, 9, 0, 9, 0, 9, 0, 9),
                1, 2, 3, 4, 5, 6, 7, 8, 9, 10, 11, 12, 13, 14, 15);
        });
    }

    private void costs() {
        s.test("the sum of the squares of the differences of its entries from their mean", () -> {
            // means 4, 4 1/2 and -3: 16 + 0 + 16, 20 1/4 twice, 36 + 9 + 9 + 36
            check.due("0 4 8", Laid.series(4, 0, 0, 4, 8, null).cost(0, 1), 32 * ONE);
            check.due("0 9", Laid.series(4, 0, 0, 9, null, null).cost(0, 1), 81 * ONE / 2);
            check.due("-9 -6 0 3", Laid.series(4, 0, -9, -6, 0, 3).cost(0, 1), 90 * ONE);
            check.due("one entry", Laid.series(1, 0, 7, null, null, null).cost(0, 1), 0);
        });
        s.test("the sum of the spreads of all runs plus the penalty for each break", () -> {
            for (int p : new int[] {0, 1, 5, 8}) {
                ShiftMender m = Laid.series(2, p, 0, 1, 50, 50, 7, 8);
                check.due("two breaks, penalty " + p, m.cost(0, 1), (1 + 2 * p) * ONE);
                check.due("the other way", m.cost(1, 0), (1 + 2 * p) * ONE);
            }
            check.due("no break", Laid.series(2, 99999, 0, 0, 2, 2).cost(0, 1), 4 * ONE);
            check.due("the greatest penalty", Laid.series(1, 99999, 0, 9999, 0, 9999).cost(0, 1), 3 * 99999 * ONE);
            Integer[] zigzag = new Integer[16];
            for (int t = 0; t < 16; t++) {
                zigzag[t] = t % 2 == 0 ? -9999 : 9999;
            }
            check.due("fifteen breaks", Laid.series(1, 99999, zigzag).cost(0, 1), 15 * 99999 * ONE);
        });
        s.test("Spreads and costs are returned multiplied by 720720, which makes them integers", () -> {
            for (int n = 1; n <= 16; n++) {
                ShiftMender m = zerosAndNines(1, 99999, n - 1, 1);
                long due = ONE / n * (n - 1) * 81;
                check.due("spread of " + n, m.spread(0, 1, 0, n - 1), due);
                check.due("cost of " + n, m.cost(0, 1), due);
                check.due("spreads of " + n, m.spreads(0, 1, 0), due);
            }
        });
    }

    private void best() {
        s.test("The best segmentation is the one with the smallest cost", () -> {
            splitIs("a break that saves one more than its penalty", Laid.series(2, 3, 0, 0, 2, 2), 2);
            splitIs("of two places the one that saves more", Laid.series(2, 3, 0, 0, 1, 9, 9, 9), 3);
            splitIs("two breaks", Laid.series(2, 20, 0, 0, 9, 9, 0, 0), 2, 4);
        });
        s.test("of several the one with the fewest breaks", () -> {
            splitIs("a break that saves just its penalty", Laid.series(2, 4, 0, 0, 2, 2));
            splitIs("of two breaks the second one saves just its penalty", Laid.series(2, 36, 0, 0, 6, 6, 40, 40), 4);
            splitIs("nothing is saved for nothing", Laid.series(1, 0, 5, 5, 5, 5));
            splitIs("one shift for nothing", Laid.series(1, 0, 5, 5, 6, 6), 2);
            splitIs("three and four breaks cost the same as two", Laid.series(1, 2, 0, 2, 4, 4, 2, 0), 1, 5);
        });
        s.test("then with the earliest first break", () -> {
            splitIs("1 or 2", Laid.series(1, 1, 0, 1, 2, null), 1);
            splitIs("1 3 or 2 3", Laid.series(1, 60, 0, 10, 20, 120), 1, 3);
            splitIs("1 5 or 2 4", Laid.series(1, 1, 0, 1, 2, 2, 1, 0), 1, 5);
        });
        s.test("then with the earliest second one, and so on", () -> {
            splitIs("1 2 or 1 3", Laid.series(1, 60, 0, 100, 110, 120), 1, 2);
            splitIs("1 2 3 or 1 2 4", Laid.series(1, 60, 0, 1000, 0, 10, 20), 1, 2, 3);
            splitIs("1 2 3 4 or 1 2 3 5", Laid.series(1, 60, 0, 1000, 0, 1000, 1010, 1020), 1, 2, 3, 4);
        });
    }

    // ---- promises 18 to 22

    private void split() {
        s.under("Promise 18");
        s.test("Returns a break of the best segmentation of a series.", () -> {
            refused.due("split(0, 1, 0) changes nothing", 6, m -> m.split(0, 1, 0), ShiftMender::new);
        });
        takesTwoStations("split", (m, u, v) -> m.split(u, v, -1));
        s.test("`k`: -1 for the number of breaks, otherwise an index", () -> {
            int[] due = {-1, 2, 6, 9, -4};
            for (int k = -2; k <= 2; k++) {
                check.due("split(0, 1, " + k + ")", new ShiftMender().split(0, 1, k), due[k + 2]);
            }
        });
        s.test("Returns the number of breaks, or the year of the break", () -> {
            splitIs("none", noEntries(1, 0));
            splitIs("the least year", Laid.series(1, 0, 0, 9, 9, 9), 1);
            splitIs("the greatest year", zerosAndNines(1, 0, 15, 1), 15);
        });
        s.test("NONE if there are not so many", () -> {
            for (int k : new int[] {2, 3, 16, 17, GREATEST}) {
                refused.due("split(0, 1, " + k + ")", -4, m -> m.split(0, 1, k), ShiftMender::new);
            }
            refused.due("split(0, 1, 0) of none", -4, m -> m.split(0, 1, 0), () -> noEntries(2, 5));
            check.due("split(0, 1, 15) of 15", manyBreaks().split(0, 1, 15), -4);
            check.due("split(0, 1, 14) of 15", manyBreaks().split(0, 1, 14), 15);
        });
        s.test("BAD if there is no such station, or u equals v, or k is less than -1", () -> {
            SeriesSentences.badForPairs(refused, "split -1", (m, u, v) -> m.split(u, v, -1));
            SeriesSentences.badForPairs(refused, "split 99", (m, u, v) -> m.split(u, v, 99));
            for (int k : new int[] {-2, -3, LEAST}) {
                refused.due("split(0, 1, " + k + ")", -1, m -> m.split(0, 1, k), Refused.objects());
            }
        });
    }

    private static ShiftMender manyBreaks() {
        return Laid.series(1, 1, 0, 9, 0, 9, 0, 9, 0, 9, 0, 9, 0, 9, 0, 9, 0, 9);
    }

    private void takesTwoStations(String call, SeriesSentences.PairCall tried) {
        s.test("`u`: number of a station", () -> SeriesSentences.stationsTaken(check, call, tried));
        s.test("`v`: number of another station", () -> {
            for (int u = 0; u < 5; u++) {
                for (int v = 0; v < 5; v++) {
                    long answer = tried.on(new ShiftMender(), u, v);
                    check.holds(call + " of " + u + " and " + v, u == v ? answer == -1 : answer >= 0);
                    check.due("the other way round", tried.on(new ShiftMender(), v, u), answer);
                }
            }
        });
    }

    private void cost() {
        s.under("Promise 19");
        s.test("Returns the cost of the best segmentation of a series.", () -> {
            refused.due("cost(0, 1) changes nothing", 17297280, m -> m.cost(0, 1), ShiftMender::new);
        });
        takesTwoStations("cost", (m, u, v) -> m.cost(u, v));
        s.test("Returns 720720 times the cost", () -> {
            check.due("nothing", noEntries(1, 99999).cost(0, 1), 0);
            check.due("the least one but nothing", zerosAndNines(2, 1, 2, 2).cost(0, 1), ONE);
            ShiftMender great = Laid.of(TextSentences.empty(4, 2) + "l4320;");
            for (int t = 0; t < 4; t++) {
                great.set(0, t, t < 2 ? 9999 : -9999);
                great.set(1, t, t < 2 ? -9999 : 9999);
            }
            check.due("a great one", great.cost(0, 1), 4L * 19998 * 19998 * ONE);
        });
        s.test("BAD if there is no such station, or u equals v",
            () -> SeriesSentences.badForPairs(refused, "cost", (m, u, v) -> m.cost(u, v)));
    }

    private void spreads() {
        s.under("Promise 20");
        s.test("Returns the smallest sum of the spreads of all runs of a segmentation of a series with exactly k "
            + "breaks", () -> {
                refused.due("spreads(0, 1, 1) changes nothing", 12162150, m -> m.spreads(0, 1, 1), ShiftMender::new);
                ShiftMender m = Laid.series(2, 7, 0, 0, 0, 9, 9, 9);
                check.due("k = 0", m.spreads(0, 1, 0), 243 * ONE / 2);
                check.due("k = 1", m.spreads(0, 1, 1), 0);
                check.due("k = 2 is worse, each run having two entries", m.spreads(0, 1, 2), 81 * ONE / 2);
                check.due("k = 3", m.spreads(0, 1, 3), -4);
                breaksAnywhere();
            });
        takesTwoStations("spreads", (m, u, v) -> m.spreads(u, v, 0));
        s.test("`k`: number of breaks", () -> {
            for (int r = 1; r <= 4; r++) {
                for (int n = 0; n <= 16; n++) {
                    ShiftMender m = zerosAndNines(r, 3, n / 2, n - n / 2);
                    for (int k = -1; k <= 17; k++) {
                        boolean fine = k == 0 || k > 0 && (k + 1) * r <= n;
                        long answer = m.spreads(0, 1, k);
                        String call = "spreads(0, 1, " + k + ") of " + n + ", R = " + r;
                        check.holds(call + " is " + answer, k < 0 ? answer == -1 : fine ? answer >= 0 : answer == -4);
                    }
                }
            }
        });
        s.test("Returns 720720 times the sum", () -> {
            ShiftMender m = Laid.series(2, 7, 0, 1, 50, 50, 7, 8, 8);
            check.due("1/2 and 2/3", m.spreads(0, 1, 2), ONE / 2 + 2 * ONE / 3);
            check.due("nothing", noEntries(1, 9).spreads(0, 1, 0), 0);
            check.due("each entry for itself", manyBreaks().spreads(0, 1, 15), 0);
            m.penalty(99999);
            check.due("the penalty is not in it", m.spreads(0, 1, 2), ONE / 2 + 2 * ONE / 3);
        });
        s.test("NONE if there is no such segmentation", () -> {
            for (int k : new int[] {7, 8, 15, 16, 1 << 30, GREATEST}) {
                refused.due("spreads(0, 1, " + k + ")", -4, m -> m.spreads(0, 1, k), ShiftMender::new);
                check.due("spreads(0, 1, " + k + ") of none", noEntries(1, 0).spreads(0, 1, k), -4);
                check.due("of one entry", zerosAndNines(4, 0, 1, 0).spreads(0, 1, k), -4);
            }
            check.holds("spreads(0, 1, 6)", new ShiftMender().spreads(0, 1, 6) >= 0);
            check.due("spreads(0, 1, 16)", manyBreaks().spreads(0, 1, 16), -4);
        });
        s.test("BAD if there is no such station, or u equals v, or k is negative", () -> {
            SeriesSentences.badForPairs(refused, "spreads 0", (m, u, v) -> m.spreads(u, v, 0));
            SeriesSentences.badForPairs(refused, "spreads 99", (m, u, v) -> m.spreads(u, v, 99));
            for (int k : new int[] {-1, -2, LEAST}) {
                refused.due("spreads(0, 1, " + k + ")", -1, m -> m.spreads(0, 1, k), Refused.objects());
            }
        });
    }

    /** Wherever the levels of a series change: with as many breaks nothing is left. */
    private void breaksAnywhere() {
        for (int r = 1; r <= 4; r++) {
            for (int first = r; first <= 16 - r; first++) {
                check.due("a break at " + first, zerosAndNines(r, 3, first, 16 - first).spreads(0, 1, 1), 0);
                for (int second = first + r; second <= 16 - r; second++) {
                    Integer[] row = new Integer[16];
                    for (int t = 0; t < 16; t++) {
                        row[t] = t < first ? 0 : t < second ? 9 : 5;
                    }
                    ShiftMender m = Laid.series(r, 3, row);
                    check.due("breaks at " + first + " and " + second, m.spreads(0, 1, 2), 0);
                    check.holds("one of them is not enough", m.spreads(0, 1, 1) > 0);
                }
            }
        }
    }

    private void breaks() {
        s.under("Promise 21");
        s.test("Returns how many breaks the best segmentation of a series would have with another penalty", () -> {
            refused.due("breaks(0, 1, 30) changes nothing", 1, m -> m.breaks(0, 1, 30), ShiftMender::new);
            ShiftMender m = Laid.series(2, 20, 0, 0, 6, 6, 12, 12);
            // both breaks save 144, one of them alone 108
            int[][] due = {{0, 2}, {35, 2}, {36, 1}, {107, 1}, {108, 0}, {99999, 0}};
            for (int[] d : due) {
                check.due("breaks(0, 1, " + d[0] + ")", m.breaks(0, 1, d[0]), d[1]);
            }
        });
        takesTwoStations("breaks", (m, u, v) -> m.breaks(u, v, 12));
        s.test("`p`: the penalty, 0 to 99999", () -> {
            int[][] due = {{-1, -1}, {0, 1}, {1, 1}, {99998, 1}, {99999, 0}, {100000, -1}};
            ShiftMender m = justTheGreatest();
            for (int[] d : due) {
                int answer = m.breaks(0, 1, d[0]);
                check.due("breaks(0, 1, " + d[0] + ")", Math.min(answer, 1), d[1]);
            }
        });
        s.test("Returns the number of breaks", () -> {
            check.due("none", noEntries(1, 0).breaks(0, 1, 0), 0);
            check.due("fifteen", manyBreaks().breaks(0, 1, 0), 15);
        });
        s.test("BAD if there is no such station, or u equals v, or p is out of range", () -> {
            SeriesSentences.badForPairs(refused, "breaks 5", (m, u, v) -> m.breaks(u, v, 5));
            SeriesSentences.badForPairs(refused, "breaks -1", (m, u, v) -> m.breaks(u, v, -1));
            for (int p : new int[] {-1, 100000, -2, 100001, LEAST, GREATEST}) {
                refused.due("breaks(0, 1, " + p + ")", -1, m -> m.breaks(0, 1, p), Refused.objects());
            }
        });
    }

    /** Three breaks save 3 times 99999, and fewer of them save less for each: with 99999 there is none. */
    private static ShiftMender justTheGreatest() {
        return Laid.series(1, 20, 0, -462, 159, -451);
    }

    private void least() {
        s.under("Promise 22");
        s.test("Returns the smallest penalty with which the best segmentation of a series would have at most k breaks",
            () -> {
                refused.due("least(0, 1, 0) changes nothing", 59, m -> m.least(0, 1, 0), ShiftMender::new);
                for (Supplier<ShiftMender> object : Refused.objects()) {
                    int breaks = object.get().breaks(0, 1, 0);
                    for (int k = 0; k <= breaks; k++) {
                        int p = object.get().least(0, 1, k);
                        check.holds("with it there are at most " + k, object.get().breaks(0, 1, p) <= k);
                        check.holds("with one less more", p == 0 || object.get().breaks(0, 1, p - 1) > k);
                    }
                }
            });
        takesTwoStations("least", (m, u, v) -> m.least(u, v, 1));
        s.test("`k`: number of breaks", () -> {
            int[] due = {-1, 108, 36, 0, 0, 0};
            ShiftMender m = Laid.series(2, 20, 0, 0, 6, 6, 12, 12);
            for (int k = -1; k <= 4; k++) {
                check.due("least(0, 1, " + k + ")", m.least(0, 1, k), due[k + 1]);
            }
            check.due("least(0, 1, greatest)", m.least(0, 1, GREATEST), 0);
        });
        s.test("Returns the penalty, 0 to 99999", () -> {
            check.due("0", Laid.series(1, 20, 4, 4, 4, 4).least(0, 1, 0), 0);
            check.due("1: a half is saved", Laid.series(1, 20, 4, 5, null, null).least(0, 1, 0), 1);
            check.due("2: two are saved", Laid.series(1, 20, 4, 6, null, null).least(0, 1, 0), 2);
            check.due("41: 40 1/2 is saved", Laid.series(1, 20, 0, 9, null, null).least(0, 1, 0), 41);
            check.due("99999", justTheGreatest().least(0, 1, 0), 99999);
            check.due("99999 less one", justTheGreatest().breaks(0, 1, 99998), 3);
        });
        s.test("NONE if there is none", () -> {
            // a break saves 100000, one more than the greatest penalty
            Supplier<ShiftMender> object = () -> Laid.series(4, 20, 0, 0, 0, 0, 0, 200, 200, 200, 200, 200);
            check.due("what is saved", object.get().spreads(0, 1, 0), 100000 * ONE);
            refused.due("least(0, 1, 0)", -4, m -> m.least(0, 1, 0), object);
            check.due("least(0, 1, 1)", object.get().least(0, 1, 1), 0);
            check.due("least(0, 1, 0)", Laid.series(1, 0, 0, 9999, 0, 9999).least(0, 1, 2), -4);
            check.due("least(0, 1, 3)", Laid.series(1, 0, 0, 9999, 0, 9999).least(0, 1, 3), 0);
        });
        s.test("BAD if there is no such station, or u equals v, or k is negative", () -> {
            SeriesSentences.badForPairs(refused, "least 0", (m, u, v) -> m.least(u, v, 0));
            SeriesSentences.badForPairs(refused, "least 99", (m, u, v) -> m.least(u, v, 99));
            for (int k : new int[] {-1, -2, LEAST}) {
                refused.due("least(0, 1, " + k + ")", -1, m -> m.least(0, 1, k), Refused.objects());
            }
        });
    }
}
