/** Promises 23 to 27: votes, culprits, mending and the ledger. */
public final class CulpritTest {
    private static final Check CHECK = new Check();

    public static void main(String[] args) {
        votesOfPairsAlone();
        votesAreNotSpent();
        twoStations();
        equalVotes();
        votesWanted();
        windows();
        allPairsInAllYears();
        nothingOldIsLeft();
        twoChangesAtOnce();
        mendingAndAnotherChange();
        roundedSizes();
        sizeOfSeveralPairs();
        wrongCulprits();
        mending();
        mendingALaterCulprit();
        sizeZero();
        outOfRange();
        justInRange();
        fullLedger();
        mendingUntilTheLedgerIsFull();
        mendingAnew();
        ledgerEntries();
        CHECK.end();
    }

    private static void culprit(String what, ShiftMender m, int i, int... properties) {
        for (int k = 0; k < 4; k++) {
            int due = k == 3 ? properties[k] + 100000 : properties[k];
            CHECK.due(what + ": culprit(" + i + ", " + k + ")", m.culprit(i, k), due);
        }
    }

    private static void culprits(String what, ShiftMender m, int due) {
        for (int k = 0; k < 4; k++) {
            CHECK.due(what + ": culprit(-1, " + k + ")", m.culprit(-1, k), due);
            CHECK.due(what + ": culprit behind the last one", m.culprit(due, k), -4);
        }
    }

    private static void votesOfPairsAlone() {
        // in a line, each one a pair with the next: 1 is a pair with 0 and 2, and 2 with 3
        ShiftMender m = Laid.of("y6;s00000000;s10000999;s30000000;s70000000;l2110;p05;");
        int[] due = {1, 2, 1, 0};
        for (int c = 0; c < 4; c++) {
            for (int t = 0; t < 6; t++) {
                CHECK.due("votes(" + c + ", " + t + ")", m.votes(c, t), t == 3 ? due[c] : 0);
            }
        }
        m.rule(1, 3);
        CHECK.due("N = 3: votes(1, 3)", m.votes(1, 3), 3);
        CHECK.due("N = 3: votes(3, 3)", m.votes(3, 3), 1);
        m.rule(0, 4);
        CHECK.due("R = 4: votes(1, 3)", m.votes(1, 3), 0);
        m.rule(0, 3);
        m.penalty(122);
        CHECK.due("penalty 122: votes(1, 3)", m.votes(1, 3), 0);
        m.penalty(121);
        CHECK.due("penalty 121: votes(1, 3)", m.votes(1, 3), 3);
        int[][] bad = {{-1, 0}, {4, 0}, {0, -1}, {0, 6}, {Integer.MAX_VALUE, 0}, {0, Integer.MIN_VALUE}};
        for (int[] b : bad) {
            CHECK.due("votes(" + b[0] + ", " + b[1] + ")", m.votes(b[0], b[1]), -1);
        }
    }

    private static void votesAreNotSpent() {
        ShiftMender m = new ShiftMender();
        culprits("first", m, 2);
        CHECK.due("votes(1, 9)", m.votes(1, 9), 4);
        CHECK.due("votes(0, 9)", m.votes(0, 9), 1);
        CHECK.due("votes(0, 6)", m.votes(0, 6), 3);
        CHECK.due("votes(1, 6)", m.votes(1, 6), 1);
        CHECK.due("votes(0, 0)", m.votes(0, 0), 0);
    }

    private static void twoStations() {
        ShiftMender m = Laid.of("y8;s0000ss0000;s0000000000;l2110;p05;");
        culprits("two", m, 2);
        culprit("two", m, 0, 0, 2, 1, 28);
        culprit("two", m, 1, 0, 4, 1, -28);
        ShiftMender other = Laid.of("y8;s0000000000;s0000ss0000;l2110;p05;");
        culprits("the other one", other, 2);
        culprit("the other one", other, 0, 0, 2, 1, -28);
        culprit("the other one", other, 1, 0, 4, 1, 28);
    }

    private static void equalVotes() {
        // 1 shifts in year 4, 2 in year 2: two votes each; the smaller station comes first
        ShiftMender m = Laid.of("y6;s00000000;s00000099;s00009999;l2520;p05;");
        CHECK.due("votes(1, 4)", m.votes(1, 4), 2);
        CHECK.due("votes(2, 2)", m.votes(2, 2), 2);
        culprits("stations", m, 2);
        culprit("stations", m, 0, 1, 4, 2, 9);
        culprit("stations", m, 1, 2, 2, 2, 9);
        // both shifts belong to 1; the earlier year comes first
        ShiftMender years = Laid.of("y6;s00000000;s000099ii;s00000000;l2520;p05;");
        culprits("years", years, 2);
        culprit("years", years, 0, 1, 2, 2, 9);
        culprit("years", years, 1, 1, 4, 2, 9);
        // three votes come before two, whatever the stations and years are
        ShiftMender more = Laid.of("y6;s00000000;s00009999;s000000..;s00000099;l2520;p05;");
        CHECK.due("votes(1, 2)", more.votes(1, 2), 3);
        CHECK.due("votes(3, 4)", more.votes(3, 4), 2);
        culprit("more", more, 0, 1, 2, 3, 9);
        culprit("more", more, 1, 3, 4, 2, 9);
        culprits("more", more, 2);
    }

    private static void votesWanted() {
        ShiftMender m = Laid.of("y6;s00000000;s00000999;s00000000;s00000000;s00000000;s00000000;l2550;p05;");
        culprits("T = 5", m, 1);
        culprit("T = 5", m, 0, 1, 3, 5, 9);
        m.lose(0, 0);
        m.lose(0, 1);
        m.lose(0, 2);
        culprits("T = 5, one vote fewer", m, 0);
        CHECK.due("votes(1, 3)", m.votes(1, 3), 4);
        m.rule(2, 4);
        culprits("T = 4", m, 1);
        m.rule(2, 1);
        culprits("T = 1", m, 1);
        // the votes of a struck break are gone for the other station too
        ShiftMender both = Laid.of("y6;s00000999;s00000000;s00000000;l2510;p05;");
        culprits("T = 1", both, 1);
        culprit("T = 1", both, 0, 0, 3, 2, 9);
    }

    /** Station 0 shifts in year 4; where the value of year 4 (and 5) is missing, the break is a year (two) later. */
    private static void windows() {
        String text = "y9;s00000099999;s00000000000;s000000.2222;s00000000000;s000000..222;p10;l1510;";
        ShiftMender m = Laid.of(text);
        CHECK.due("votes(0, 4)", m.votes(0, 4), 2);
        CHECK.due("votes(0, 5)", m.votes(0, 5), 1);
        CHECK.due("votes(0, 6)", m.votes(0, 6), 1);
        culprit("W = 0", m, 0, 0, 4, 2, 9);
        boolean later = false;
        for (int i = 1; i < m.culprit(-1, 0); i++) {
            later |= m.culprit(i, 0) == 0 && m.culprit(i, 1) == 5 && m.culprit(i, 3) == 100007;
        }
        CHECK.holds("W = 0: there is a culprit in year 5 too", later);
        for (int w = 0; w <= 2; w++) {
            m.rule(3, w);
            culprit("W = " + w, m, 0, 0, 4, 2, 9);
            int years = 0;
            for (int i = 0; i < m.culprit(-1, 0); i++) {
                years |= m.culprit(i, 0) == 0 ? 1 << m.culprit(i, 1) : 0;
            }
            CHECK.due("W = " + w + ": years of station 0", years, w == 0 ? 16 + 32 + 64 : w == 1 ? 16 + 64 : 16);
            CHECK.due("votes stay", m.votes(0, 5), 1);
        }
        // the window goes back as well, and never before the first or behind the last year
        ShiftMender back = Laid.of("y6;s00099999;s0000000s;s00.99999;s00.99999;p03;l1522;");
        Oracle oracle = new Oracle();
        for (int sign : "y6;s00099999;s0000000s;s00.99999;s00.99999;p03;l1522;".toCharArray()) {
            oracle.answer("write", new int[] {sign});
        }
        oracle.answer("lay", new int[0]);
        for (int i = -1; i < 4; i++) {
            for (int what = 0; what < 4; what++) {
                CHECK.due("back: culprit(" + i + ", " + what + ")", back.culprit(i, what),
                    oracle.answer("culprit", new int[] {i, what}));
            }
        }
    }

    /** The values are station times year: each of the 15 series has a break in each of the years 1 to 15. */
    private static void allPairsInAllYears() {
        // of c and v the series falls by v - c each year; these are the means for c and all v that are greater
        int[] sizes = {-3, -2, -2, -1, -1};
        for (int w = 0; w <= 2; w++) {
            ShiftMender m = Laid.of("yg;" + "s00................;".repeat(6) + "l151" + w + ";p00;");
            for (int c = 0; c < 6; c++) {
                for (int t = 0; t < 16; t++) {
                    m.set(c, t, c * t);
                }
            }
            int inAll = (15 + w) / (w + 1);
            CHECK.due("all, W = " + w + ": culprits", m.culprit(-1, 0), 5 * inAll);
            CHECK.due("all, W = " + w + ": behind the last one", m.culprit(5 * inAll, 0), -4);
            for (int i = w; i < 5 * inAll; i += 2) {
                int c = i / inAll;
                culprit("all, W = " + w, m, i, c, 1 + i % inAll * (w + 1), 5 - c, sizes[c]);
            }
            for (int t = 0; t < 16; t++) {
                CHECK.due("all: votes(" + 2 * w + ", " + t + ")", m.votes(2 * w, t), t == 0 ? 0 : 5);
                CHECK.due("all: votes(" + (2 * w + 1) + ", " + t + ")", m.votes(2 * w + 1, t), t == 0 ? 0 : 5);
            }
        }
    }

    /** What was no vote any more, or is no break any more, does not come back after a change. */
    private static void nothingOldIsLeft() {
        ShiftMender m = Laid.of("y6;s00000000;s00000999;s00000444;l2530;p05;");
        culprits("T = 3", m, 0);
        for (int t = 0; t < 6; t++) {
            m.lose(0, t);
        }
        m.rule(2, 1);
        culprits("T = 1", m, 1);
        culprit("T = 1", m, 0, 1, 3, 1, 5);
        for (int i = 0; i < 7; i++) {
            m.undo();
        }
        culprits("undone, T = 3", m, 0);
        m.rule(2, 2);
        culprits("undone, T = 2", m, 1);
        culprit("undone, T = 2", m, 0, 0, 3, 2, -6);
        m.wipe();
        Laid.write(m, "y4;s00....;s001199;s001111;l2320;p05;");
        m.lay();
        culprits("laid anew", m, 0);
        CHECK.due("votes(0, 3)", m.votes(0, 3), 0);
        m.rule(2, 1);
        culprits("laid anew, T = 1", m, 1);
        culprit("laid anew, T = 1", m, 0, 1, 2, 1, 8);
    }

    /** Two changes with no question between them, some of which take away all culprits, and then both undone. */
    private static void twoChangesAtOnce() {
        for (int first = 0; first < 5; first++) {
            for (int second = 0; second < 5; second++) {
                if (first != second) {
                    ShiftMender m = new ShiftMender();
                    culprits("before", m, 2);
                    int due = Math.min(change(m, first), change(m, second));
                    String both = "changes " + first + " and " + second;
                    CHECK.due(both, m.culprit(-1, 0), due);
                    CHECK.due(both + ": votes", m.votes(1, 9), first == 1 || second == 1 ? 0 : 4);
                    m.undo();
                    m.undo();
                    culprits(both + ", undone", m, 2);
                }
            }
        }
    }

    private static void mendingAndAnotherChange() {
        for (int kind : new int[] {0, 3, 4}) {
            ShiftMender m = new ShiftMender();
            CHECK.due("mend(0)", m.mend(0), 1);
            change(m, kind);
            culprits("mended, and change " + kind, m, 1);
            m.undo();
            m.undo();
            culprits("mended, and change " + kind + ", undone", m, 2);
        }
    }

    /** Makes a change of a kind; answers how many culprits there are then at most. */
    private static int change(ShiftMender m, int kind) {
        switch (kind) {
            case 0:
                m.set(4, 0, 3);
                return 2;
            case 1:
                m.penalty(99999);
                return 0;
            case 2:
                m.rule(2, 5);
                return 0;
            case 3:
                m.lose(4, 0);
                return 2;
            default:
                m.make(2, 3);
                return 2;
        }
    }

    private static void size(int due, int... values) {
        Integer[] row = new Integer[values.length];
        for (int t = 0; t < row.length; t++) {
            row[t] = values[t];
        }
        ShiftMender m = Laid.series(2, 0, row);
        m.rule(2, 1);
        CHECK.due("breaks", m.breaks(0, 1, 0), 1);
        CHECK.due("size of " + java.util.Arrays.toString(values), m.culprit(0, 3), 100000 + due);
    }

    private static void roundedSizes() {
        size(2, 0, 0, 1, 2);
        size(-1, 0, 0, -1, -2);
        size(3, 0, 0, 2, 3);
        size(-2, 0, 0, -2, -3);
        size(1, 0, 0, 0, 1);
        size(0, 0, 0, 0, -1);
        size(8, 0, 0, 7, 8, 8);
        size(7, 0, 0, 7, 7, 8);
        size(-8, 0, 0, -7, -8, -8);
        size(-7, 0, 0, -7, -7, -8);
        size(19998, -9999, -9999, 9999, 9999);
        size(-19998, 9999, 9999, -9999, -9999);
    }

    private static void sizeOfSeveralPairs() {
        // of 0 and 1: 1, of 0 and 2: 2; neither is rounded before the mean is
        ShiftMender m = Laid.of("y8;s0000003333;s0000002222;s0000001111;s0000003333;l4520;p00;");
        m.lose(3, 0);
        CHECK.due("votes(0, 4)", m.votes(0, 4), 2);
        culprit("1 1/2", m, 0, 0, 4, 2, 2);
        ShiftMender less = Laid.of("y8;s0000000000;s0000001111;s0000002222;s0000000000;l4520;p00;");
        less.lose(3, 0);
        culprit("-1 1/2", less, 0, 0, 4, 2, -1);
        // the run behind a break ends at the next break, and the run before it begins at the last one
        ShiftMender three = Laid.of("y9;s00000555111;s00000000000;l2110;p02;");
        CHECK.due("breaks", three.split(0, 1, -1), 2);
        culprit("runs", three, 0, 0, 3, 1, 5);
        culprit("runs", three, 1, 0, 6, 1, -4);
    }

    private static void wrongCulprits() {
        ShiftMender m = new ShiftMender();
        int[][] bad = {{-2, 0}, {0, -1}, {0, 4}, {-1, -1}, {-1, 4}, {9, 4}, {Integer.MIN_VALUE, 0},
            {0, Integer.MAX_VALUE}, {0, Integer.MIN_VALUE}};
        for (int[] b : bad) {
            CHECK.due("culprit(" + b[0] + ", " + b[1] + ")", m.culprit(b[0], b[1]), -1);
        }
        CHECK.due("culprit(2, 0)", m.culprit(2, 0), -4);
        CHECK.due("culprit(greatest, 3)", m.culprit(Integer.MAX_VALUE, 3), -4);
    }

    private static void mending() {
        ShiftMender m = Laid.of("y6;s00000000;s000.0999;s00000000;l2320;p05;");
        CHECK.due("mend(-1)", m.mend(-1), -1);
        CHECK.due("mend(least)", m.mend(Integer.MIN_VALUE), -1);
        CHECK.due("mend(1)", m.mend(1), -4);
        CHECK.due("mend(greatest)", m.mend(Integer.MAX_VALUE), -4);
        CHECK.due("no change", m.count(9), 0);
        culprit("before", m, 0, 1, 3, 2, 9);
        CHECK.due("mend(0)", m.mend(0), 1);
        int[] due = {9, -1, 9, 9, 9, 9};
        for (int t = 0; t < 6; t++) {
            CHECK.due("value(1, " + t + ")", m.value(1, t), due[t] < 0 ? -4 : 100000 + due[t]);
            CHECK.due("value(0, " + t + ")", m.value(0, t), 100000);
            CHECK.due("value(2, " + t + ")", m.value(2, t), 100000);
        }
        culprits("after", m, 0);
        CHECK.due("votes(1, 3)", m.votes(1, 3), 0);
        CHECK.due("mend(0) again", m.mend(0), -4);
        CHECK.due("one change", m.count(9), 1);
        CHECK.due("undo()", m.undo(), 0);
        culprit("undone", m, 0, 1, 3, 2, 9);
        CHECK.due("value(1, 0)", m.value(1, 0), 100000);
        CHECK.due("value(1, 1)", m.value(1, 1), -4);
        CHECK.due("ledger(-1, 0)", m.ledger(-1, 0), 0);
    }

    private static void mendingALaterCulprit() {
        ShiftMender m = new ShiftMender();
        CHECK.due("mend(1)", m.mend(1), 1);
        CHECK.due("ledger(0, 0)", m.ledger(0, 0), 0);
        CHECK.due("ledger(0, 1)", m.ledger(0, 1), 6);
        CHECK.due("ledger(0, 2)", m.ledger(0, 2), 100006);
        CHECK.due("value(0, 5)", m.value(0, 5), 100013);
        CHECK.due("value(0, 6)", m.value(0, 6), 100012);
        culprits("then", m, 1);
        culprit("then", m, 0, 1, 9, 4, 3);
        CHECK.due("mend(0)", m.mend(0), 2);
        CHECK.due("undo()", m.undo(), 1);
        CHECK.due("ledger(-1, 0)", m.ledger(-1, 0), 1);
        CHECK.due("ledger(0, 0)", m.ledger(0, 0), 0);
    }

    /** Against 1 station 0 rises by 5, against 2 it falls by 5; all three have two votes. */
    private static void sizeZero() {
        ShiftMender m = Laid.of("y4;s009999;s009944;s0099ee;l2520;p05;");
        culprit("zero", m, 0, 0, 2, 2, 0);
        CHECK.due("mend(0)", m.mend(0), -2);
        CHECK.due("mends()", m.mends(), 0);
        CHECK.due("no change", m.count(9), 0);
        CHECK.due("ledger(-1, 0)", m.ledger(-1, 0), 0);
        m.rule(2, 1);
        culprit("the second one", m, 1, 1, 2, 1, -10);
        CHECK.due("mends() stops at the first one", m.mends(), 0);
        CHECK.due("mend(1)", m.mend(1), 1);
    }

    private static void outOfRange() {
        ShiftMender m = Laid.of("y4;s000000;s000000;l2110;");
        m.set(0, 0, 9000);
        m.set(0, 2, 9999);
        m.set(0, 3, 9999);
        m.set(1, 0, 9000);
        culprit("too great", m, 0, 0, 2, 1, 9999);
        CHECK.due("mend(0)", m.mend(0), -2);
        CHECK.due("mends()", m.mends(), 0);
        CHECK.due("value(0, 0)", m.value(0, 0), 109000);
        CHECK.due("value(0, 1)", m.value(0, 1), 100000);
        m.set(0, 2, -9999);
        m.set(0, 3, -9999);
        m.set(0, 0, 0);
        m.set(1, 0, 0);
        m.set(0, 1, -1);
        m.set(1, 1, -1);
        culprit("too small", m, 0, 0, 2, 1, -9999);
        CHECK.due("mend(0)", m.mend(0), -2);
        CHECK.due("value(0, 0)", m.value(0, 0), 100000);
        CHECK.due("ledger(-1, 0)", m.ledger(-1, 0), 0);
    }

    private static void justInRange() {
        ShiftMender m = Laid.of("y4;s000000;s000000;l2110;");
        m.set(0, 2, 9999);
        m.set(0, 3, 9999);
        culprit("just", m, 0, 0, 2, 1, 9999);
        CHECK.due("mend(0)", m.mend(0), 1);
        CHECK.due("value(0, 1)", m.value(0, 1), 109999);
        m.set(0, 2, 0);
        m.set(0, 3, 0);
        culprit("back", m, 0, 0, 2, 1, -9999);
        CHECK.due("mend(0)", m.mend(0), 2);
        m.set(0, 2, -9999);
        m.set(0, 3, -9999);
        CHECK.due("mend(0)", m.mend(0), 3);
        CHECK.due("value(0, 0)", m.value(0, 0), 90001);
    }

    private static void fullLedger() {
        ShiftMender m = Laid.of("y4;s000000;s000000;l1110;p01;");
        for (int i = 1; i <= 10; i++) {
            m.set(0, 3, 10 * i);
            CHECK.due("mend(0) as number " + i, m.mend(0), i);
        }
        CHECK.due("NONE before FULL", m.mend(0), -4);
        CHECK.due("mends() without a culprit", m.mends(), 0);
        m.set(0, 3, 110);
        CHECK.due("FULL", m.mend(0), -3);
        CHECK.due("NONE before FULL", m.mend(1), -4);
        CHECK.due("BAD before FULL", m.mend(-1), -1);
        CHECK.due("mends() when full", m.mends(), 0);
        CHECK.due("value(0, 0)", m.value(0, 0), 100100);
        m.lose(0, 0);
        m.lose(0, 1);
        m.set(1, 2, 9999);
        m.set(0, 2, 9999);
        m.set(0, 3, 9999);
        culprit("a value would be too great", m, 0, 0, 3, 1, 9999);
        CHECK.due("FULL before NO", m.mend(0), -3);
        int undone = 0;
        while (m.count(9) > 0) {
            CHECK.due("undo()", m.undo(), 7 - undone);
            undone++;
        }
        CHECK.due("undone", undone, 8);
        CHECK.due("ledger(-1, 0)", m.ledger(-1, 0), 9);
        m.set(0, 3, 100);
        CHECK.due("mend(0) goes on", m.mend(0), 10);
    }

    /** Fifteen breaks, a mending for each of them: the ledger takes ten, and eight of these can be undone. */
    private static void mendingUntilTheLedgerIsFull() {
        ShiftMender m = Laid.of("yg;s000000000000000000;s000000000000000000;l1110;p01;");
        for (int t = 0; t < 16; t++) {
            m.set(0, t, 10 * t * t);
        }
        CHECK.due("breaks", m.split(0, 1, -1), 15);
        culprits("all years", m, 15);
        CHECK.due("mends()", m.mends(), 10);
        CHECK.due("ledger(-1, 0)", m.ledger(-1, 0), 10);
        culprits("what is left", m, 5);
        culprit("the next one", m, 0, 0, 11, 1, 210);
        for (int t = 0; t <= 10; t++) {
            CHECK.due("value(0, " + t + ")", m.value(0, t), 101000);
        }
        CHECK.due("mend(0)", m.mend(0), -3);
        CHECK.due("mends() again", m.mends(), 0);
        for (int i = 7; i >= 0; i--) {
            CHECK.due("undo()", m.undo(), i);
            CHECK.due("ledger(-1, 0)", m.ledger(-1, 0), i + 2);
        }
        CHECK.due("undo() too far", m.undo(), -2);
        CHECK.due("ledger(-1, 0)", m.ledger(-1, 0), 2);
        CHECK.due("ledger(1, 1)", m.ledger(1, 1), 2);
        CHECK.due("value(0, 0)", m.value(0, 0), 100040);
        CHECK.due("mends() goes on", m.mends(), 8);
    }

    private static void mendingAnew() {
        ShiftMender m = new ShiftMender();
        CHECK.due("mends()", m.mends(), 2);
        CHECK.due("mends() again", m.mends(), 0);
        CHECK.due("two changes", m.count(9), 2);
        ShiftMender none = Laid.of("y4;s00....;s00....;");
        CHECK.due("mends() without values", none.mends(), 0);
        CHECK.due("mend(0) without values", none.mend(0), -4);
        CHECK.due("culprits without values", none.culprit(-1, 0), 0);
    }

    private static void ledgerEntries() {
        ShiftMender m = new ShiftMender();
        for (int what = 0; what < 3; what++) {
            CHECK.due("empty: ledger(-1, " + what + ")", m.ledger(-1, what), 0);
            CHECK.due("empty: ledger(0, " + what + ")", m.ledger(0, what), -4);
        }
        m.mends();
        int[][] due = {{1, 9, 100003}, {0, 6, 100006}};
        for (int k = 0; k < 2; k++) {
            for (int what = 0; what < 3; what++) {
                CHECK.due("ledger(" + k + ", " + what + ")", m.ledger(k, what), due[k][what]);
                CHECK.due("ledger(-1, " + what + ")", m.ledger(-1, what), 2);
            }
        }
        CHECK.due("ledger(2, 0)", m.ledger(2, 0), -4);
        CHECK.due("ledger(10, 0)", m.ledger(10, 0), -4);
        CHECK.due("ledger(greatest, 2)", m.ledger(Integer.MAX_VALUE, 2), -4);
        int[][] bad = {{-2, 0}, {0, -1}, {0, 3}, {-1, -1}, {-1, 3}, {9, 3}, {Integer.MIN_VALUE, 0},
            {0, Integer.MAX_VALUE}, {0, Integer.MIN_VALUE}};
        for (int[] b : bad) {
            CHECK.due("ledger(" + b[0] + ", " + b[1] + ")", m.ledger(b[0], b[1]), -1);
        }
        ShiftMender negative = Laid.of("y4;s00ss00;s000000;l2110;");
        CHECK.due("mend(0)", negative.mend(0), 1);
        CHECK.due("a negative size", negative.ledger(0, 2), 100000 - 28);
    }
}
