/** Promises 13 to 17: neighbours, pairs and series. */
public final class SeriesTest {
    private static final Check CHECK = new Check();

    public static void main(String[] args) {
        neighbours();
        neighboursAreNoNearerThanTheSquares();
        pairs();
        entries();
        years();
        spreads();
        greatSpreads();
        CHECK.end();
    }

    /** Two numbers that are not two different stations of an object with five stations. */
    static int[][] badPairs() {
        return new int[][] {{-1, 0}, {0, -1}, {5, 0}, {0, 5}, {0, 0}, {4, 4}, {-1, -1}, {6, 7},
            {Integer.MAX_VALUE, 0}, {0, Integer.MIN_VALUE}};
    }

    private static void neighbours() {
        ShiftMender m = Laid.of("y4;s55....;s56....;s65....;s54....;s45....;s55....;");
        int[][] due = {{5, 1, 2, 3, 4}, {0, 5, 2, 4, 3}, {0, 5, 1, 3, 4}, {0, 5, 2, 4, 1}, {0, 5, 1, 3, 2},
            {0, 1, 2, 3, 4}};
        for (int c = 0; c < 6; c++) {
            for (int k = 0; k < 5; k++) {
                CHECK.due("nearest(" + c + ", " + k + ")", m.nearest(c, k), due[c][k]);
            }
            CHECK.due("nearest(" + c + ", 5)", m.nearest(c, 5), -4);
            CHECK.due("nearest(" + c + ", greatest)", m.nearest(c, Integer.MAX_VALUE), -4);
            CHECK.due("nearest(" + c + ", -1)", m.nearest(c, -1), -1);
        }
        CHECK.due("nearest(-1, 0)", m.nearest(-1, 0), -1);
        CHECK.due("nearest(6, 0)", m.nearest(6, 0), -1);
        CHECK.due("nearest(6, 9)", m.nearest(6, 9), -1);
        CHECK.due("nearest(0, least)", m.nearest(0, Integer.MIN_VALUE), -1);
        CHECK.due("nearest(greatest, 0)", m.nearest(Integer.MAX_VALUE, 0), -1);
        m.rule(1, 1);
        CHECK.due("nearest(0, 4) with N = 1", m.nearest(0, 4), 4);
        ShiftMender two = Laid.of("y4;s00....;sss....;");
        CHECK.due("nearest(0, 0) of two", two.nearest(0, 0), 1);
        CHECK.due("nearest(1, 0) of two", two.nearest(1, 0), 0);
        CHECK.due("nearest(1, 1) of two", two.nearest(1, 1), -4);
        CHECK.due("nearest(2, 0) of two", two.nearest(2, 0), -1);
    }

    /** From 0, station 1 is nearer by the squares (50 to 64), station 2 by the sum of both ways (10 to 8). */
    private static void neighboursAreNoNearerThanTheSquares() {
        ShiftMender m = Laid.of("y4;s00....;s80....;s55....;");
        CHECK.due("nearest(0, 0)", m.nearest(0, 0), 2);
        CHECK.due("nearest(0, 1)", m.nearest(0, 1), 1);
    }

    private static void pairs() {
        ShiftMender m = Laid.of("y4;s00....;s10....;s30....;s70....;l1110;");
        int[][] one = {{0, 1, 0, 0}, {1, 0, 1, 0}, {0, 1, 0, 1}, {0, 0, 1, 0}};
        int[][] two = {{0, 1, 1, 0}, {1, 0, 1, 1}, {1, 1, 0, 1}, {0, 1, 1, 0}};
        for (int u = 0; u < 4; u++) {
            for (int v = 0; v < 4; v++) {
                CHECK.due("N = 1: pair(" + u + ", " + v + ")", m.pair(u, v), u == v ? -1 : one[u][v]);
            }
        }
        CHECK.due("N = 1: count(7)", m.count(7), 3);
        m.rule(1, 2);
        for (int u = 0; u < 4; u++) {
            for (int v = 0; v < 4; v++) {
                CHECK.due("N = 2: pair(" + u + ", " + v + ")", m.pair(u, v), u == v ? -1 : two[u][v]);
            }
        }
        CHECK.due("N = 2: count(7)", m.count(7), 5);
        m.rule(1, 5);
        CHECK.due("N = 5: count(7)", m.count(7), 6);
        ShiftMender first = new ShiftMender();
        for (int[] p : badPairs()) {
            CHECK.due("pair(" + p[0] + ", " + p[1] + ")", first.pair(p[0], p[1]), -1);
        }
        CHECK.due("pair(4, 0)", first.pair(4, 0), 0);
        CHECK.due("pair(4, 1)", first.pair(4, 1), 1);
    }

    private static void entries() {
        ShiftMender m = Laid.of("y6;s00.15a.s;s000.3b.0;s00......;");
        int[] due = {2, -1, 28};
        CHECK.due("entry(0, 1, -1)", m.entry(0, 1, -1), 3);
        CHECK.due("entry(1, 0, -1)", m.entry(1, 0, -1), 3);
        for (int i = 0; i < 3; i++) {
            CHECK.due("entry(0, 1, " + i + ")", m.entry(0, 1, i), 100000 + due[i]);
            CHECK.due("entry(1, 0, " + i + ")", m.entry(1, 0, i), 100000 - due[i]);
        }
        CHECK.due("entry(0, 1, 3)", m.entry(0, 1, 3), -4);
        CHECK.due("entry(0, 1, greatest)", m.entry(0, 1, Integer.MAX_VALUE), -4);
        CHECK.due("entry(0, 2, -1)", m.entry(0, 2, -1), 0);
        CHECK.due("entry(0, 2, 0)", m.entry(0, 2, 0), -4);
        CHECK.due("entry(0, 1, -2)", m.entry(0, 1, -2), -1);
        CHECK.due("entry(0, 1, least)", m.entry(0, 1, Integer.MIN_VALUE), -1);
        m.set(0, 2, 9999);
        m.set(1, 2, -9999);
        CHECK.due("the greatest entry", m.entry(0, 1, 0), 119998);
        CHECK.due("the least entry", m.entry(1, 0, 0), 80002);
        ShiftMender first = new ShiftMender();
        for (int[] p : badPairs()) {
            CHECK.due("entry(" + p[0] + ", " + p[1] + ", 0)", first.entry(p[0], p[1], 0), -1);
            CHECK.due("entry(" + p[0] + ", " + p[1] + ", 99)", first.entry(p[0], p[1], 99), -1);
        }
        CHECK.due("a series of no pair", first.entry(0, 4, -1), 14);
    }

    private static void years() {
        ShiftMender m = Laid.of("y6;s00.15a.s;s000.3b.0;s00......;");
        int[] due = {2, 3, 5};
        for (int i = 0; i < 3; i++) {
            CHECK.due("year(0, 1, " + i + ")", m.year(0, 1, i), due[i]);
            CHECK.due("year(1, 0, " + i + ")", m.year(1, 0, i), due[i]);
        }
        CHECK.due("year(0, 1, 3)", m.year(0, 1, 3), -4);
        CHECK.due("year(0, 2, 0)", m.year(0, 2, 0), -4);
        CHECK.due("year(0, 1, greatest)", m.year(0, 1, Integer.MAX_VALUE), -4);
        CHECK.due("year(0, 1, -1)", m.year(0, 1, -1), -1);
        CHECK.due("year(0, 1, least)", m.year(0, 1, Integer.MIN_VALUE), -1);
        ShiftMender first = new ShiftMender();
        for (int[] p : badPairs()) {
            CHECK.due("year(" + p[0] + ", " + p[1] + ", 0)", first.year(p[0], p[1], 0), -1);
        }
        CHECK.due("year(0, 4, 13)", first.year(0, 4, 13), 13);
    }

    private static void spreads() {
        ShiftMender m = Laid.series(2, 20, 3, null, 4, 8, 8, 0);
        // of 3, 4: 1/2; of 3, 4, 8: 14; of 4, 8, 8: 32/3; of 8, 8: 0; of all: 47 1/5
        CHECK.due("spread(0, 1, 0, 1)", m.spread(0, 1, 0, 1), 360360);
        CHECK.due("spread(0, 1, 0, 2)", m.spread(0, 1, 0, 2), 14 * 720720);
        CHECK.due("spread(0, 1, 1, 3)", m.spread(0, 1, 1, 3), 32 * 240240);
        CHECK.due("spread(0, 1, 2, 3)", m.spread(0, 1, 2, 3), 0);
        CHECK.due("spread(0, 1, 0, 4)", m.spread(0, 1, 0, 4), 236 * 144144);
        CHECK.due("spread(1, 0, 0, 4)", m.spread(1, 0, 0, 4), 236 * 144144);
        for (int i = 0; i < 5; i++) {
            CHECK.due("spread of entry " + i, m.spread(0, 1, i, i), 0);
        }
        int[][] bad = {{-1, 0}, {0, 5}, {5, 5}, {4, 5}, {3, 2}, {1, 0}, {-1, -1}, {0, -1},
            {0, Integer.MAX_VALUE}, {Integer.MIN_VALUE, 0}, {Integer.MAX_VALUE, Integer.MAX_VALUE}};
        for (int[] b : bad) {
            CHECK.due("spread(0, 1, " + b[0] + ", " + b[1] + ")", m.spread(0, 1, b[0], b[1]), -1);
        }
        ShiftMender first = new ShiftMender();
        for (int[] p : badPairs()) {
            CHECK.due("spread(" + p[0] + ", " + p[1] + ", 0, 1)", first.spread(p[0], p[1], 0, 1), -1);
        }
        CHECK.due("spread of an empty series", Laid.series(2, 20, null, null, null, null).spread(0, 1, 0, 0), -1);
    }

    /** Sixteen entries, half of them 19998 and half of them -19998: the greatest spread that there is. */
    private static void greatSpreads() {
        ShiftMender m = Laid.of("yg;s000000000000000000;s000000000000000000;");
        for (int t = 0; t < 16; t++) {
            m.set(0, t, t < 8 ? 9999 : -9999);
            m.set(1, t, t < 8 ? -9999 : 9999);
        }
        CHECK.due("spread(0, 1, 0, 15)", m.spread(0, 1, 0, 15), 720720L * 16 * 19998 * 19998);
        CHECK.due("spreads(0, 1, 0)", m.spreads(0, 1, 0), 720720L * 16 * 19998 * 19998);
        CHECK.due("cost(0, 1)", m.cost(0, 1), 720720L * 20);
        CHECK.due("split(0, 1, 0)", m.split(0, 1, 0), 8);
        CHECK.due("least(0, 1, 0)", m.least(0, 1, 0), -4);
    }
}
