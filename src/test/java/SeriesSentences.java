import java.util.List;
import java.util.function.Supplier;

/** The sentences about pairs and series: PAIRS AND SERIES, promises 13 to 17. */
final class SeriesSentences {
    private static final int LEAST = Integer.MIN_VALUE;
    private static final int GREATEST = Integer.MAX_VALUE;
    private static final long ONE = 720720;

    private final Sentences s;
    private final Check check;
    private final Refused refused;

    SeriesSentences(Sentences s, Check check) {
        this.s = s;
        this.check = check;
        this.refused = new Refused(check);
    }

    void all() {
        pairsAndSeries();
        nearest();
        pair();
        entry();
        year();
        spread();
    }

    /** Two numbers that are not two different stations of an object: just outside, far outside, equal. */
    static List<int[]> badPairs(ShiftMender m) {
        int n = m.count(0);
        return List.of(new int[] {-1, 0}, new int[] {0, -1}, new int[] {n, 0}, new int[] {0, n}, new int[] {0, 0},
            new int[] {n - 1, n - 1}, new int[] {-1, -1}, new int[] {n, n}, new int[] {-1, n},
            new int[] {LEAST, 0}, new int[] {0, LEAST}, new int[] {GREATEST, 0}, new int[] {0, GREATEST});
    }

    interface PairCall {
        long on(ShiftMender m, int u, int v);
    }

    /** The call has to answer BAD for all that are not two different stations, and to change nothing. */
    static void badForPairs(Refused refused, String call, PairCall tried) {
        for (Supplier<ShiftMender> object : Refused.objects()) {
            for (int[] p : badPairs(object.get())) {
                refused.due(call + " of " + p[0] + ", " + p[1], -1, m -> tried.on(m, p[0], p[1]), object);
            }
        }
    }

    /** For the argument u (or v): the call has to answer BAD but for the numbers of the other stations. */
    static void stationsTaken(Check check, String call, PairCall tried) {
        for (int n = 2; n <= 6; n++) {
            ShiftMender m = Laid.of("y4;" + "s000000;".repeat(n));
            for (int c = -1; c <= n; c++) {
                boolean fine = c >= 1 && c < n;
                check.holds(call + " of 0 and " + c + " of " + n, tried.on(m, 0, c) == -1 ^ fine);
                check.holds(call + " of " + c + " and 0 of " + n, tried.on(m, c, 0) == -1 ^ fine);
            }
        }
    }

    // ---- PAIRS AND SERIES

    private void neighbourRow(ShiftMender m, int c, int... due) {
        for (int k = 0; k < due.length; k++) {
            check.due("nearest(" + c + ", " + k + ")", m.nearest(c, k), due[k]);
        }
        check.due("nearest(" + c + ", " + due.length + ")", m.nearest(c, due.length), -4);
    }

    private void pairsAndSeries() {
        s.under("PAIRS AND SERIES");
        s.test("The neighbours of a station are all other stations", () -> {
            neighbourRow(Laid.of("y4;s00....;sss....;"), 0, 1);
            neighbourRow(Laid.of("y4;s00....;sss....;"), 1, 0);
            neighbourRow(Laid.of("y4;s00....;s10....;s20....;s30....;s40....;s50....;"), 5, 4, 3, 2, 1, 0);
            neighbourRow(Laid.of("y4;s00....;s10....;s20....;s30....;s40....;s50....;l2120;"), 0, 1, 2, 3, 4, 5);
        });
        s.test("ordered by the square of the distance of their places", () -> {
            // 1 is 64 away, 2 is 50 (more by the sum of both ways), 3 is 65 (less by the greater way than 1)
            ShiftMender m = Laid.of("y4;s00....;s80....;s55....;s47....;");
            neighbourRow(m, 0, 2, 1, 3);
            // 28 * 28 is 784; 27 * 27 + 7 * 7 is 778, 27 * 27 + 8 * 8 is 793
            neighbourRow(Laid.of("y4;s00....;sr8....;ss0....;sr7....;"), 0, 3, 2, 1);
        });
        s.test("for equal ones by number", () -> {
            neighbourRow(Laid.of("y4;s55....;s56....;s65....;s54....;s45....;s55....;"), 0, 5, 1, 2, 3, 4);
            neighbourRow(Laid.of("y4;s55....;s56....;s65....;s54....;s45....;s55....;"), 5, 0, 1, 2, 3, 4);
            neighbourRow(Laid.of(TextSentences.empty(4, 6)), 3, 0, 1, 2, 4, 5);
        });
        s.test("Two stations are a pair if one of them is among the first N neighbours of the other one", () -> {
            // in a line at 0, 1, 3, 7, 15: the nearest one of each but 0 is the one before it
            String line = "y4;s00....;s10....;s30....;s70....;sf0....;";
            String[] due = {"1000 100 10 1", "1100 110 11 1", "1110 111 11 1", "1111 111 11 1", "1111 111 11 1"};
            for (int n = 1; n <= 5; n++) {
                ShiftMender m = Laid.of(line + "l2" + n + "20;");
                StringBuilder pairs = new StringBuilder();
                for (int u = 0; u < 4; u++) {
                    pairs.append(u == 0 ? "" : " ");
                    for (int v = u + 1; v < 5; v++) {
                        pairs.append(m.pair(u, v));
                        check.due("the other way round", m.pair(v, u), m.pair(u, v));
                    }
                }
                check.holds("N = " + n + ": " + pairs, pairs.toString().equals(due[n - 1]));
            }
            // 3 is nobody's nearest one, but its own nearest one is 0
            ShiftMender one = Laid.of("y4;s00....;s00....;s00....;sss....;l2120;");
            check.due("pair(0, 3)", one.pair(0, 3), 1);
            check.due("pair(1, 3)", one.pair(1, 3), 0);
            // more neighbours wanted than there are
            check.due("two stations, N = 5", Laid.of("y4;s00....;sss....;l2520;").pair(0, 1), 1);
            check.due("two stations, N = 5: pairs", Laid.of("y4;s00....;sss....;l2520;").count(7), 1);
        });
        s.test("The series of two different stations u and v, a pair or not", () -> {
            ShiftMender m = Laid.of("y4;s000123;s000000;s001111;sss5555;l2120;");
            check.due("pair(1, 3)", m.pair(1, 3), 0);
            check.due("entry(1, 3, -1)", m.entry(1, 3, -1), 4);
            check.due("entry(3, 1, 0)", m.entry(3, 1, 0), 100005);
            check.due("year(1, 3, 3)", m.year(1, 3, 3), 3);
            check.due("spread(1, 3, 0, 3)", m.spread(1, 3, 0, 3), 0);
            check.due("split(1, 3, -1)", m.split(1, 3, -1), 0);
            check.due("cost(1, 3)", m.cost(1, 3), 0);
            check.due("spreads(1, 3, 1)", m.spreads(1, 3, 1), 0);
            check.due("breaks(1, 3, 0)", m.breaks(1, 3, 0), 0);
            check.due("least(1, 3, 0)", m.least(1, 3, 0), 0);
        });
        s.test("has an entry for each year in which both have a value", () -> {
            // neither, the first alone, the second alone, both, both, neither
            ShiftMender m = Laid.of("y6;s00.1.23.;s00..112.;s00......;s0000.000;");
            check.due("entries of 0 and 1", m.entry(0, 1, -1), 2);
            check.due("the first one", m.year(0, 1, 0), 3);
            check.due("the second one", m.year(0, 1, 1), 4);
            check.due("no third one", m.year(0, 1, 2), -4);
            check.due("entries with none at all", m.entry(0, 2, -1), 0);
            check.due("entries in all years but one", m.entry(3, 0, -1), 3);
            check.due("in all years", Laid.of("yg;" + "s000123456701234567;".repeat(2)).entry(0, 1, -1), 16);
        });
        s.test("in the order of the years", () -> {
            ShiftMender m = Laid.of("yg;s00f.e.d.c.b.a.9.8.;s000.0.0.0.0.0.0.0.;");
            for (int i = 0; i < 8; i++) {
                check.due("year(0, 1, " + i + ")", m.year(0, 1, i), 2 * i);
                check.due("entry(0, 1, " + i + ")", m.entry(0, 1, i), 100015 - i);
            }
            check.due("entry(0, 1, 8)", m.entry(0, 1, 8), -4);
        });
        s.test("the value of u minus that of v", () -> {
            ShiftMender m = Laid.of("y4;s0005.9;s0050.2;");
            int[] due = {-5, 5, 7};
            for (int i = 0; i < 3; i++) {
                check.due("entry(0, 1, " + i + ")", m.entry(0, 1, i), 100000 + due[i]);
                check.due("entry(1, 0, " + i + ")", m.entry(1, 0, i), 100000 - due[i]);
            }
            m.set(0, 0, 9999);
            m.set(1, 0, -9999);
            check.due("the greatest entry", m.entry(0, 1, 0), 119998);
            check.due("the least entry", m.entry(1, 0, 0), 80002);
        });
    }

    // ---- promises 13 to 17

    private void nearest() {
        s.under("Promise 13");
        s.test("Returns a neighbour of a station.", () -> {
            refused.due("nearest(0, 0) changes nothing", 1, m -> m.nearest(0, 0), Refused::busy);
        });
        s.test("`c`: number of the station", () -> {
            for (int n = 2; n <= 6; n++) {
                ShiftMender m = Laid.of(TextSentences.empty(4, n));
                check.due("nearest(-1, 0) of " + n, m.nearest(-1, 0), -1);
                check.due("nearest(0, 0) of " + n, m.nearest(0, 0), 1);
                check.due("nearest of the last one of " + n, m.nearest(n - 1, 0), 0);
                check.due("nearest behind the last one of " + n, m.nearest(n, 0), -1);
            }
        });
        s.test("`k`: index, 0 for the nearest one", () -> {
            ShiftMender m = Laid.of("y4;s00....;s30....;s20....;s10....;");
            int[] due = {-1, 3, 2, 1, -4};
            for (int k = -1; k <= 3; k++) {
                check.due("nearest(0, " + k + ")", m.nearest(0, k), due[k + 1]);
            }
        });
        s.test("Returns the station", () -> {
            neighbourRow(new ShiftMender(), 0, 1, 2, 3, 4);
            neighbourRow(new ShiftMender(), 4, 3, 2, 1, 0);
        });
        s.test("NONE if there are not so many", () -> {
            int[] stations = {5, 5, 2, 6};
            for (int i = 0; i < stations.length; i++) {
                for (int k : new int[] {stations[i] - 1, stations[i], 6, GREATEST}) {
                    refused.due("nearest(0, " + k + ")", -4, m -> m.nearest(0, k), Refused.objects().get(i));
                    refused.due("nearest(1, " + k + ")", -4, m -> m.nearest(1, k), Refused.objects().get(i));
                }
            }
        });
        s.test("BAD if there is no such station, or k is negative", () -> {
            for (Supplier<ShiftMender> object : Refused.objects()) {
                int n = object.get().count(0);
                for (int[] b : new int[][] {{-1, 0}, {n, 0}, {0, -1}, {-1, -1}, {n, 99}, {LEAST, 0}, {GREATEST, 0},
                    {0, LEAST}, {GREATEST, GREATEST}}) {
                    refused.due("nearest(" + b[0] + ", " + b[1] + ")", -1, m -> m.nearest(b[0], b[1]), object);
                }
            }
        });
    }

    private void pair() {
        s.under("Promise 14");
        s.test("Tells whether two stations are a pair.", () -> {
            refused.due("pair(0, 1) changes nothing", 1, m -> m.pair(0, 1), Refused::busy);
            refused.due("pair(4, 0) changes nothing", 0, m -> m.pair(4, 0), Refused::busy);
        });
        s.test("`u`: number of a station", () -> stationsTaken(check, "pair", (m, u, v) -> m.pair(u, v)));
        s.test("`v`: number of another station", () -> {
            for (int c = 0; c < 5; c++) {
                for (int v = 0; v < 5; v++) {
                    int answer = new ShiftMender().pair(c, v);
                    check.holds("pair(" + c + ", " + v + ")", c == v ? answer == -1 : answer >= 0);
                }
            }
        });
        s.test("Returns 1 or 0", () -> {
            ShiftMender m = new ShiftMender();
            for (int u = 0; u < 5; u++) {
                for (int v = 0; v < 5; v++) {
                    boolean far = u == 0 && v == 4 || u == 4 && v == 0;
                    check.due("pair(" + u + ", " + v + ")", m.pair(u, v), u == v ? -1 : far ? 0 : 1);
                }
            }
        });
        s.test("BAD if there is no such station, or u equals v",
            () -> badForPairs(refused, "pair", (m, u, v) -> m.pair(u, v)));
    }

    private void entry() {
        s.under("Promise 15");
        s.test("Returns an entry of a series.", () -> {
            refused.due("entry(2, 0, 3) changes nothing", 99999, m -> m.entry(2, 0, 3), ShiftMender::new);
        });
        s.test("`u`: number of a station", () -> stationsTaken(check, "entry", (m, u, v) -> m.entry(u, v, 3)));
        s.test("`v`: number of another station", () -> stationsTaken(check, "entry", (m, u, v) -> m.entry(u, v, -1)));
        s.test("`i`: -1 for the number of entries, otherwise an index", () -> {
            ShiftMender m = Laid.of("y6;s00.15a.s;s000.3b.0;s00......;");
            int[] due = {-1, 3, 100002, 99999, 100028, -4};
            for (int i = -2; i <= 3; i++) {
                check.due("entry(0, 1, " + i + ")", m.entry(0, 1, i), due[i + 2]);
            }
        });
        s.test("Returns the number of entries, or the entry plus ZERO", () -> {
            check.due("no entries", Laid.of("y4;s00.0.0;s000.0.;").entry(0, 1, -1), 0);
            check.due("one entry", Laid.of("y4;s00.0.0;s000.00;").entry(0, 1, -1), 1);
            check.due("sixteen entries", Laid.of("yg;" + "s000123456701234567;".repeat(2)).entry(1, 0, -1), 16);
            check.due("an entry of 0", Laid.of("y4;s000000;s000000;").entry(0, 1, 0), 100000);
        });
        s.test("NONE if there are not so many", () -> {
            for (int i : new int[] {14, 15, 16, GREATEST}) {
                refused.due("entry(0, 1, " + i + ")", -4, m -> m.entry(0, 1, i), ShiftMender::new);
            }
            refused.due("entry(0, 1, 4)", -4, m -> m.entry(0, 1, 4), Refused::smallest);
            refused.due("entry(0, 1, 1)", -4, m -> m.entry(0, 1, 1), Refused::greatest);
            check.due("entry(0, 1, 13)", new ShiftMender().entry(0, 1, 13), 100002);
            ShiftMender all = Laid.of("yg;" + "s000123456701234567;".repeat(2));
            check.due("entry(0, 1, 15) of 16", all.entry(0, 1, 15), 100000);
            check.due("entry(0, 1, 16) of 16", all.entry(0, 1, 16), -4);
            check.due("entry(0, 1, 17) of 16", all.entry(0, 1, 17), -4);
            check.due("entry(0, 1, 0) of 0", Laid.of(TextSentences.empty(4, 2)).entry(0, 1, 0), -4);
        });
        s.test("BAD if there is no such station, or u equals v, or i is less than -1", () -> {
            badForPairs(refused, "entry -1", (m, u, v) -> m.entry(u, v, -1));
            badForPairs(refused, "entry 99", (m, u, v) -> m.entry(u, v, 99));
            for (int i : new int[] {-2, -3, LEAST}) {
                refused.due("entry(0, 1, " + i + ")", -1, m -> m.entry(0, 1, i), Refused.objects());
            }
        });
    }

    private void year() {
        s.under("Promise 16");
        s.test("Returns the year of an entry of a series.", () -> {
            refused.due("year(2, 0, 3) changes nothing", 4, m -> m.year(2, 0, 3), ShiftMender::new);
        });
        s.test("`u`: number of a station", () -> stationsTaken(check, "year", (m, u, v) -> m.year(u, v, 0)));
        s.test("`v`: number of another station", () -> stationsTaken(check, "year", (m, u, v) -> m.year(u, v, 3)));
        s.test("`i`: index", () -> {
            ShiftMender m = Laid.of("y6;s00.15a.s;s000.3b.0;");
            int[] due = {-1, 2, 3, 5, -4};
            for (int i = -1; i <= 3; i++) {
                check.due("year(0, 1, " + i + ")", m.year(0, 1, i), due[i + 1]);
                check.due("year(1, 0, " + i + ")", m.year(1, 0, i), due[i + 1]);
            }
        });
        s.test("Returns the year;", () -> {
            ShiftMender m = Laid.of("yg;s000..............0;s000123456701234567;");
            check.due("the first year", m.year(0, 1, 0), 0);
            check.due("the last year", m.year(0, 1, 1), 15);
        });
        s.test("NONE if there are not so many entries", () -> {
            for (int i : new int[] {14, 15, 16, GREATEST}) {
                refused.due("year(0, 1, " + i + ")", -4, m -> m.year(0, 1, i), ShiftMender::new);
            }
            check.due("year(0, 1, 13)", new ShiftMender().year(0, 1, 13), 13);
            ShiftMender all = Laid.of("yg;" + "s000123456701234567;".repeat(2));
            check.due("year(0, 1, 15) of 16", all.year(0, 1, 15), 15);
            check.due("year(0, 1, 16) of 16", all.year(0, 1, 16), -4);
            check.due("year(0, 1, 0) of 0", Laid.of(TextSentences.empty(4, 2)).year(0, 1, 0), -4);
        });
        s.test("BAD if there is no such station, or u equals v, or i is negative", () -> {
            badForPairs(refused, "year 0", (m, u, v) -> m.year(u, v, 0));
            badForPairs(refused, "year 99", (m, u, v) -> m.year(u, v, 99));
            for (int i : new int[] {-1, -2, LEAST}) {
                refused.due("year(0, 1, " + i + ")", -1, m -> m.year(0, 1, i), Refused.objects());
            }
        });
    }

    private void spread() {
        s.under("Promise 17");
        s.test("Returns the spread of the entries i to j of a series, taken as one run.", () -> {
            ShiftMender m = Laid.series(4, 20, 3, null, 4, 8, 8, 0);
            // the least run length does not matter: of 3, 4: 1/2; of 3, 4, 8: 14; of all five: 47 1/5
            check.due("spread(0, 1, 0, 1)", m.spread(0, 1, 0, 1), ONE / 2);
            check.due("spread(0, 1, 0, 2)", m.spread(0, 1, 0, 2), 14 * ONE);
            check.due("spread(0, 1, 2, 3)", m.spread(0, 1, 2, 3), 0);
            check.due("spread(0, 1, 0, 4)", m.spread(0, 1, 0, 4), 236 * ONE / 5);
            refused.due("spread(0, 1, 0, 1) changes nothing", ONE / 2, x -> x.spread(0, 1, 0, 1),
                () -> Laid.series(4, 20, 3, null, 4, 8, 8, 0));
        });
        s.test("`u`: number of a station", () -> stationsTaken(check, "spread", (m, u, v) -> m.spread(u, v, 0, 0)));
        s.test("`v`: number of another station",
            () -> stationsTaken(check, "spread", (m, u, v) -> m.spread(u, v, 0, 3)));
        s.test("`i`: index of the first entry", () -> {
            ShiftMender m = Laid.series(1, 20, 0, 9, 9, 0);
            long[] due = {-1, 81 * ONE, 54 * ONE, 81 * ONE / 2, 0, -1};
            for (int i = -1; i <= 4; i++) {
                check.due("spread(0, 1, " + i + ", 3)", m.spread(0, 1, i, 3), due[i + 1]);
            }
        });
        s.test("`j`: index of the last entry, at least i", () -> {
            ShiftMender m = Laid.series(1, 20, 0, 9, 9, 0);
            long[] due = {-1, -1, 0, 0, 54 * ONE, -1};
            for (int j = -1; j <= 4; j++) {
                check.due("spread(0, 1, 1, " + j + ")", m.spread(0, 1, 1, j), due[j + 1]);
            }
        });
        s.test("Returns 720720 times the spread", () -> {
            // of a 1 and n - 1 zeros: (n - 1) / n
            for (int n = 1; n <= 16; n++) {
                ShiftMender m = Laid.of("yg;s001" + "0".repeat(15) + ";s00" + "0".repeat(16) + ";");
                check.due("spread of " + n, m.spread(0, 1, 0, n - 1), ONE / n * (n - 1));
                check.due("spread of the last " + n, m.spread(0, 1, 16 - n, 15), n == 16 ? ONE / 16 * 15 : 0);
            }
            ShiftMender great = Laid.of(TextSentences.empty(16, 2));
            for (int t = 0; t < 16; t++) {
                great.set(0, t, t % 2 == 0 ? 9999 : -9999);
                great.set(1, t, t % 2 == 0 ? -9999 : 9999);
            }
            check.due("the greatest spread", great.spread(0, 1, 0, 15), ONE * 16 * 19998 * 19998);
            check.due("the other way", great.spread(1, 0, 0, 15), ONE * 16 * 19998 * 19998);
        });
        s.test("BAD if there is no such station, or u equals v, or there are no such entries", () -> {
            badForPairs(refused, "spread", (m, u, v) -> m.spread(u, v, 0, 0));
            for (int[] b : new int[][] {{-1, 0}, {0, 14}, {13, 14}, {14, 14}, {1, 0}, {13, 0}, {-1, -1}, {0, -1},
                {LEAST, 0}, {0, GREATEST}, {GREATEST, GREATEST}, {LEAST, LEAST}, {GREATEST, LEAST}}) {
                refused.due("spread(0, 1, " + b[0] + ", " + b[1] + ")", -1, m -> m.spread(0, 1, b[0], b[1]),
                    List.of(ShiftMender::new, Refused::busy));
            }
            refused.due("spread(0, 1, 0, 4)", -1, m -> m.spread(0, 1, 0, 4), Refused::smallest);
            refused.due("spread of no entries", -1, m -> m.spread(0, 1, 0, 0),
                () -> Laid.of(TextSentences.empty(4, 2)));
            ShiftMender all = Laid.of("yg;" + "s000123456701234567;".repeat(2));
            check.due("spread(0, 1, 15, 15) of 16", all.spread(0, 1, 15, 15), 0);
            check.due("spread(0, 1, 15, 16) of 16", all.spread(0, 1, 15, 16), -1);
            check.due("spread(0, 1, 16, 16) of 16", all.spread(0, 1, 16, 16), -1);
        });
    }
}
