import java.util.List;
import java.util.function.Supplier;

/** The sentences about estimates and trends: ESTIMATES, promises 28 to 30. */
final class EstimateSentences {
    private static final int LEAST = Integer.MIN_VALUE;
    private static final int GREATEST = Integer.MAX_VALUE;

    private final Sentences s;
    private final Check check;
    private final Refused refused;

    EstimateSentences(Sentences s, Check check) {
        this.s = s;
        this.check = check;
        this.refused = new Refused(check);
    }

    void all() {
        estimates();
        made();
        make();
        makeFull();
        rise();
    }

    private void madeIs(String text, int due) {
        check.due("made(0, 0) of " + text, Laid.of(text).made(0, 0), due);
    }

    // ---- ESTIMATES

    private void estimates() {
        s.under("ESTIMATES");
        s.test("over all pairs of c", () -> {
            madeIs("y4;s00.000;s007000;", 100007);
            madeIs("y4;s00.000;s007000;s009000;", 100008);
            madeIs("y4;s00.000;s001000;s002000;s003000;s004000;s005000;l2520;", 100003);
            // 3 is a pair of 0 only if N is 3 or more: it is not among the first two of 0, nor 0 among its own
            String text = "y4;s00.11.;s00.55.;s004..4;s309000;s30....;s30....;";
            ShiftMender m = Laid.of(text + "l2220;");
            check.due("pair(0, 3)", m.pair(0, 3), 0);
            check.due("made(0, 0) without 3", m.made(0, 0), -4);
            m.rule(1, 3);
            check.due("made(0, 0) with 3", m.made(0, 0), 100010);
            // 0 has 1 as its nearest one; it is the nearest one of 2, which makes 2 a pair of it too
            madeIs("y4;s10.000;s004000;s308000;l2120;", 100006);
        });
        s.test("whose other station has a value in year t", () -> {
            madeIs("y4;s00.000;s00.000;s007000;", 100007);
            madeIs("y4;s00.000;s00.000;s00.000;", -4);
            madeIs("y4;s00.000;s000000;s007...;s003.0.;", 100002);
        });
        s.test("and whose series has at least one entry", () -> {
            madeIs("y4;s00.0..;s007.00;s003.00;", -4);
            madeIs("y4;s00.0..;s007.00;s0030.0;", 100003);
            madeIs("y4;s00....;s007777;s007777;", -4);
        });
        s.test("of this value plus the mean of the series of c and the other station", () -> {
            madeIs("y4;s00.123;s005000;", 100007);
            madeIs("y4;s00.000;s001666;", 99995);
            // each series has its own years: 3 + 1 and 5 - 1
            madeIs("y4;s00.46.;s0033..;s005.7.;", 100004);
            // 1 is the smaller number, the value sought is that of 2
            check.due("made(2, 0)", Laid.of("y4;s00....;s005000;s00.123;").made(2, 0), 100007);
        });
        s.test("it is rounded to the nearest integer as above", () -> {
            madeIs("y4;s00.12.;s005000;", 100007);
            madeIs("y4;s00.000;s007000;s008000;", 100008);
            madeIs("y4;s00.00.;s000120;", 99999);
            madeIs("y4;s00.00.;s000230;", 99998);
            madeIs("y4;s00.000;s000011;", 99999);
            madeIs("y4;s00.000;s000001;", 100000);
            madeIs("y4;s00.011;s005000;", 100006);
            madeIs("y4;s00.001;s005000;", 100005);
            // 1/2, 1/2 and 0 are not rounded before their mean is
            madeIs("y4;s00.01.;s00000.;s00000.;s000010;", 100000);
        });
    }

    // ---- promises 28 to 30

    private void badAtPlaces(String call, boolean make) {
        for (Supplier<ShiftMender> object : Refused.objects()) {
            for (int[] p : ValuesSentences.badPlaces(object.get())) {
                refused.due(call + " at " + p[0] + ", " + p[1], -1,
                    m -> make ? m.make(p[0], p[1]) : m.made(p[0], p[1]), object);
            }
        }
    }

    private void made() {
        s.under("Promise 28");
        s.test("Returns the estimate of a missing value.", () -> {
            check.due("made(2, 3)", new ShiftMender().made(2, 3), 100003);
            check.due("made(0, 0)", Laid.of("yg;s00" + ".".repeat(15) + "0;s00" + "5".repeat(16) + ";").made(0, 0),
                100000);
        });
        s.test("Nothing is changed.", () -> {
            refused.due("made(2, 3)", 100003, m -> m.made(2, 3), ShiftMender::new);
            long due = Refused.busy().made(3, 13);
            check.holds("made(3, 13) is an estimate", due > 0);
            refused.due("made(3, 13)", due, m -> m.made(3, 13), Refused::busy);
        });
        s.test("`c`: number of the station", () -> {
            for (int n = 2; n <= 6; n++) {
                ShiftMender m = Laid.of("y4;" + "s00.000;".repeat(n - 1) + "s000000;");
                check.due("made(-1, 0)", m.made(-1, 0), -1);
                check.due("made(0, 0)", m.made(0, 0), 100000);
                check.due("made of the last one", m.made(n - 1, 0), -2);
                check.due("made behind the last one", m.made(n, 0), -1);
            }
        });
        s.test("`t`: the year", () -> {
            for (int years = 4; years <= 16; years++) {
                String text = TextSentences.empty(years, 2);
                ShiftMender m = Laid.of(text);
                check.due("made(0, -1)", m.made(0, -1), -1);
                check.due("made(0, 0)", m.made(0, 0), -4);
                check.due("made in the last year", m.made(0, years - 1), -4);
                check.due("made behind the last year", m.made(0, years), -1);
            }
        });
        s.test("Returns the estimate plus ZERO", () -> {
            check.due("an estimate of 0", Laid.of("y4;s00.000;s000000;").made(0, 0), 100000);
            check.due("the greatest estimate", far(1).made(0, 0), 100000 + 3 * 9999);
            check.due("the least estimate", far(-1).made(0, 0), 100000 - 3 * 9999);
        });
        s.test("BAD if there is no such station or year", () -> badAtPlaces("made", false));
        s.test("NO if the value is not missing", () -> {
            refused.due("made(2, 2)", -2, m -> m.made(2, 2), ShiftMender::new);
            refused.due("made(0, 0)", -2, m -> m.made(0, 0), Refused.objects());
            refused.due("made(2, 10), estimated already", -2, m -> m.made(2, 10), Refused::busy);
        });
        s.test("NONE if there is no pair by which it can be estimated", () -> {
            refused.due("made(0, 6) of the greatest", -4, m -> m.made(0, 6), Refused::greatest);
            refused.due("no value beside it", -4, m -> m.made(0, 0), () -> Laid.of("y4;s00.111;s00.111;"));
            refused.due("no entry", -4, m -> m.made(0, 0), () -> Laid.of("y4;s00..11;s0011..;"));
            refused.due("no pair", -4, m -> m.made(2, 0),
                () -> Laid.of("y4;s000000;s00....;s0s.000;s0s....;l2120;"));
        });
    }

    /** The one value of station 1 and all entries are as far from 0 as they can be. */
    private static ShiftMender far(int sign) {
        ShiftMender m = Laid.of("y4;s00.000;s000000;");
        m.set(1, 0, 9999 * sign);
        for (int t = 1; t < 4; t++) {
            m.set(0, t, 9999 * sign);
            m.set(1, t, -9999 * sign);
        }
        return m;
    }

    private void make() {
        s.under("Promise 29");
        s.test("Sets a missing value to its estimate.", () -> {
            ShiftMender m = new ShiftMender();
            int estimate = m.made(2, 10);
            m.make(2, 10);
            check.due("value(2, 10)", m.value(2, 10), estimate);
            check.due("value(2, 3)", m.value(2, 3), -4);
            check.due("count(8)", m.count(8), 1);
            check.due("count(9)", m.count(9), 1);
            check.due("undo()", m.undo(), 0);
            check.due("value(2, 10) undone", m.value(2, 10), -4);
        });
        s.test("`c`: number of the station", () -> {
            for (int n = 2; n <= 6; n++) {
                ShiftMender m = Laid.of("y4;s000000;" + "s00.000;".repeat(n - 1));
                check.due("make(-1, 0)", m.make(-1, 0), -1);
                check.due("make(0, 0)", m.make(0, 0), -2);
                check.due("make of the last one", m.make(n - 1, 0), 100000);
                check.due("make behind the last one", m.make(n, 0), -1);
            }
        });
        s.test("`t`: the year", () -> {
            for (int years = 4; years <= 16; years++) {
                String zeros = "0".repeat(years - 2);
                String year = TextSentences.empty(years, 0);
                ShiftMender m = Laid.of(year + "s00." + zeros + ".;s000" + zeros + "0;");
                check.due("make(0, -1)", m.make(0, -1), -1);
                check.due("make(0, 0)", m.make(0, 0), 100000);
                check.due("make in the last year", m.make(0, years - 1), 100000);
                check.due("make behind the last year", m.make(0, years), -1);
            }
        });
        s.test("Returns the value plus ZERO", () -> {
            for (int value : new int[] {-9999, -5, 0, 9999}) {
                ShiftMender m = Laid.of("y4;s00.000;s000000;");
                m.set(1, 0, value);
                check.due("make(0, 0)", m.make(0, 0), 100000 + value);
                check.due("value(0, 0)", m.value(0, 0), 100000 + value);
            }
        });
        s.test("BAD, NO and NONE as for made()", () -> {
            badAtPlaces("make", true);
            refused.due("make(2, 2)", -2, m -> m.make(2, 2), ShiftMender::new);
            refused.due("make(0, 0)", -2, m -> m.make(0, 0), Refused.objects());
            refused.due("make(2, 10), estimated already", -2, m -> m.make(2, 10), Refused::busy);
            refused.due("no value beside it", -4, m -> m.make(0, 0), () -> Laid.of("y4;s00.111;s00.111;"));
            refused.due("no entry", -4, m -> m.make(0, 0), () -> Laid.of("y4;s00..11;s0011..;"));
            refused.due("make(0, 6) of the greatest", -4, m -> m.make(0, 6), Refused::greatest);
        });
    }

    private void makeFull() {
        s.test("FULL if it would not be -9999 to 9999", () -> {
            for (int sign : new int[] {1, -1}) {
                refused.due("make(0, 0), far away", -3, m -> m.make(0, 0), () -> far(sign));
                // the mean of the series is 1 (or -1)
                refused.due("make(0, 0), one too far", -3, m -> m.make(0, 0), () -> near(9999 * sign, sign));
                ShiftMender m = near(9998 * sign, sign);
                check.due("make(0, 0), just as far", m.make(0, 0), 100000 + 9999 * sign);
                check.due("value(0, 0)", m.value(0, 0), 100000 + 9999 * sign);
            }
            // a half above 9999 is rounded up, a half below -9999 too
            refused.due("9999 1/2", -3, m -> m.make(0, 0), () -> half(9999));
            check.due("9998 1/2", half(9998).make(0, 0), 109999);
            ShiftMender least = Laid.of("y4;s00.00.;s000010;");
            least.set(1, 0, -9999);
            check.due("-9999 1/2", least.make(0, 0), 90001);
        });
    }

    /** Station 1 has this value in year 0, and in all other years station 0 has so much more. */
    private static ShiftMender near(int value, int more) {
        ShiftMender m = Laid.of("y4;s00.000;s000000;");
        m.set(1, 0, value);
        for (int t = 1; t < 4; t++) {
            m.set(0, t, more);
        }
        return m;
    }

    /** Station 1 has this value in year 0, and the mean of the series is a half. */
    private static ShiftMender half(int value) {
        ShiftMender m = Laid.of("y4;s00.01.;s00000.;");
        m.set(1, 0, value);
        return m;
    }

    private void rise() {
        s.under("Promise 30");
        s.test("over all pairs of years in which it has a value, the number of pairs whose later value is greater "
            + "minus the number of pairs whose later value is smaller", () -> {
                ShiftMender m = Laid.of("y5;s0001234;s0043210;s0044444;s00.....;s003.1.2;s00.5...;");
                int[] due = {10, -10, 0, 0, -1, 0};
                for (int c = 0; c < 6; c++) {
                    check.due("rise(" + c + ")", m.rise(c), 100000 + due[c]);
                }
                refused.due("rise(0) changes nothing", 100060, x -> x.rise(0), ShiftMender::new);
            });
        s.test("`c`: number of the station", () -> {
            for (int n = 2; n <= 6; n++) {
                ShiftMender m = Laid.of("y4;" + "s000001;".repeat(n));
                for (int c = -1; c <= n; c++) {
                    check.due("rise(" + c + ") of " + n, m.rise(c), c < 0 || c >= n ? -1 : 100003);
                }
            }
        });
        s.test("Returns the trend plus ZERO", () -> {
            ShiftMender m = Laid.of("yg;s000123456789abcdef;s00fedcba9876543210;s00................;");
            check.due("the greatest trend", m.rise(0), 100120);
            check.due("the least trend", m.rise(1), 99880);
            check.due("without a value", m.rise(2), 100000);
            m.set(2, 7, 5);
            check.due("with one value", m.rise(2), 100000);
            m.set(2, 15, 6);
            check.due("with two values", m.rise(2), 100001);
            m.set(2, 15, -9999);
            check.due("with two values, falling", m.rise(2), 99999);
        });
        s.test("BAD if there is no such station", () -> {
            for (Supplier<ShiftMender> object : Refused.objects()) {
                int n = object.get().count(0);
                for (int c : List.of(-1, n, -2, n + 1, LEAST, GREATEST)) {
                    refused.due("rise(" + c + ")", -1, m -> m.rise(c), object);
                }
            }
        });
    }
}
