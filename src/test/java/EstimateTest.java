/** Promises 28 to 30: estimates and trends. */
public final class EstimateTest {
    private static final Check CHECK = new Check();

    public static void main(String[] args) {
        oneNeighbour();
        roundedHalves();
        severalNeighbours();
        neighboursThatDoNotHelp();
        wrongEstimates();
        making();
        makingOutOfRange();
        justInRange();
        trends();
        CHECK.end();
    }

    private static void oneNeighbour() {
        ShiftMender m = Laid.of("y4;s00.123;s005000;");
        CHECK.due("made(0, 0)", m.made(0, 0), 100007);
        CHECK.due("made(0, 0) again", m.made(0, 0), 100007);
        CHECK.due("nothing is changed", m.value(0, 0), -4);
        CHECK.due("no change", m.count(9), 0);
        ShiftMender other = Laid.of("y4;s005000;s00.123;");
        CHECK.due("the other way", other.made(1, 0), 100007);
        ShiftMender lower = Laid.of("y4;s00.000;s001666;");
        CHECK.due("less than zero", lower.made(0, 0), 99995);
    }

    private static void roundedHalves() {
        // the mean of the series and the value beside it
        String[] texts = {"y4;s00.12.;s005000;", "y4;s00.00.;s000120;", "y4;s00.00.;s000560;", "y4;s00.001;s005000;",
            "y4;s00.011;s005000;", "y4;s00.000;s000011;", "y4;s00.000;s000001;"};
        int[] due = {7, -1, -5, 5, 6, -1, 0};
        for (int i = 0; i < texts.length; i++) {
            CHECK.due("made(0, 0) of " + texts[i], Laid.of(texts[i]).made(0, 0), 100000 + due[i]);
        }
    }

    private static void severalNeighbours() {
        // 7 and 8: the mean is 7 1/2
        CHECK.due("7 and 8", Laid.of("y4;s00.000;s007000;s008000;").made(0, 0), 100008);
        CHECK.due("7, 8 and 8", Laid.of("y4;s00.000;s007000;s008000;s008000;").made(0, 0), 100008);
        CHECK.due("7, 7 and 8", Laid.of("y4;s00.000;s007000;s007000;s008000;").made(0, 0), 100007);
        // 1/2 and 1/2 are not rounded before the mean is: with 1 it is 2/3, with 0 it is 1/3
        CHECK.due("1/2, 1/2 and 0", Laid.of("y4;s00.01.;s00000.;s00000.;s000010;").made(0, 0), 100000);
        CHECK.due("1/2, 1/2 and 1", Laid.of("y4;s00.01.;s00000.;s00000.;s001010;").made(0, 0), 100001);
        // each series has its own years: 3 + 1 and 5 - 1
        CHECK.due("own years", Laid.of("y4;s00.46.;s0033..;s005.7.;").made(0, 0), 100004);
    }

    private static void neighboursThatDoNotHelp() {
        // 1 has no value in year 0, 2 has no year in common with 0; 3 is a pair of 0 only if N is 3 or more
        ShiftMender m = Laid.of("y4;s00.11.;s00.55.;s004..4;s309000;l2220;");
        CHECK.due("pair(0, 3)", m.pair(0, 3), 1);
        CHECK.due("made(0, 0)", m.made(0, 0), 100010);
        ShiftMender far = Laid.of("y4;s00.11.;s00.55.;s004..4;s309000;s30....;s30....;l2220;");
        CHECK.due("pair(0, 3) far", far.pair(0, 3), 0);
        CHECK.due("made(0, 0) far", far.made(0, 0), -4);
        far.rule(1, 3);
        CHECK.due("made(0, 0) with N = 3", far.made(0, 0), 100010);
        CHECK.due("nothing at all", Laid.of("y4;s00....;s00....;").made(0, 0), -4);
        CHECK.due("no entry", Laid.of("y4;s00..11;s0011..;").made(0, 0), -4);
        CHECK.due("no value beside it", Laid.of("y4;s00.111;s00.111;").made(0, 0), -4);
        ShiftMender first = new ShiftMender();
        CHECK.due("made(2, 3)", first.made(2, 3), 100003);
        CHECK.due("made(2, 10)", first.made(2, 10), new Oracle().answer("made", new int[] {2, 10}));
    }

    private static void wrongEstimates() {
        ShiftMender m = new ShiftMender();
        int[][] bad = {{-1, 0}, {5, 0}, {0, -1}, {0, 14}, {Integer.MAX_VALUE, 3}, {2, Integer.MIN_VALUE}};
        for (int[] b : bad) {
            CHECK.due("made(" + b[0] + ", " + b[1] + ")", m.made(b[0], b[1]), -1);
            CHECK.due("make(" + b[0] + ", " + b[1] + ")", m.make(b[0], b[1]), -1);
        }
        CHECK.due("made(2, 2)", m.made(2, 2), -2);
        CHECK.due("make(2, 2)", m.make(2, 2), -2);
        ShiftMender none = Laid.of("y4;s00.111;s00.111;");
        CHECK.due("make(0, 0)", none.make(0, 0), -4);
        CHECK.due("make(0, 1)", none.make(0, 1), -2);
        CHECK.due("no change", m.count(9) + none.count(9), 0);
    }

    private static void making() {
        ShiftMender m = new ShiftMender();
        CHECK.due("make(2, 3)", m.make(2, 3), 100003);
        CHECK.due("value(2, 3)", m.value(2, 3), 100003);
        CHECK.due("make(2, 3) again", m.make(2, 3), -2);
        CHECK.due("missing", m.count(8), 1);
        CHECK.due("one change", m.count(9), 1);
        CHECK.due("entries", m.entry(2, 0, -1), 13);
        CHECK.due("undo()", m.undo(), 0);
        CHECK.due("value(2, 3)", m.value(2, 3), -4);
        CHECK.due("missing", m.count(8), 2);
    }

    private static void makingOutOfRange() {
        ShiftMender m = Laid.of("y4;s00.000;s000000;");
        m.set(1, 0, 9999);
        m.set(0, 1, 9999);
        m.set(0, 2, 9999);
        m.set(0, 3, 9999);
        CHECK.due("made(0, 0)", m.made(0, 0), 119998);
        CHECK.due("make(0, 0)", m.make(0, 0), -3);
        CHECK.due("value(0, 0)", m.value(0, 0), -4);
        CHECK.due("four changes", m.count(9), 4);
        for (int t = 1; t < 4; t++) {
            m.set(1, t, -9999);
        }
        CHECK.due("the greatest estimate", m.made(0, 0), 129997);
        for (int t = 1; t < 4; t++) {
            m.set(0, t, -9999);
            m.set(1, t, 9999);
        }
        m.set(1, 0, -9999);
        CHECK.due("the least estimate", m.made(0, 0), 70003);
        CHECK.due("make(0, 0)", m.make(0, 0), -3);
    }

    private static void justInRange() {
        ShiftMender m = Laid.of("y4;s00.111;s000000;");
        m.set(1, 0, 9998);
        CHECK.due("made(0, 0)", m.made(0, 0), 109999);
        m.set(1, 0, 9999);
        CHECK.due("make(0, 0)", m.make(0, 0), -3);
        m.set(1, 0, 9998);
        CHECK.due("make(0, 0)", m.make(0, 0), 109999);
        CHECK.due("value(0, 0)", m.value(0, 0), 109999);
        ShiftMender less = Laid.of("y4;s00.000;s000111;");
        less.set(1, 0, -9999);
        CHECK.due("make(0, 0)", less.make(0, 0), -3);
        less.set(1, 0, -9998);
        CHECK.due("make(0, 0)", less.make(0, 0), 90001);
        CHECK.due("value(0, 0)", less.value(0, 0), 90001);
    }

    private static void trends() {
        ShiftMender m = Laid.of("y5;s0001234;s0043210;s0044444;s00.....;s003.1.2;s00.5...;");
        int[] due = {10, -10, 0, 0, -1, 0};
        for (int c = 0; c < 6; c++) {
            CHECK.due("rise(" + c + ")", m.rise(c), 100000 + due[c]);
        }
        CHECK.due("rise(-1)", m.rise(-1), -1);
        CHECK.due("rise(6)", m.rise(6), -1);
        CHECK.due("rise(greatest)", m.rise(Integer.MAX_VALUE), -1);
        CHECK.due("rise(least)", m.rise(Integer.MIN_VALUE), -1);
        m.set(0, 0, 9999);
        m.set(0, 1, -9999);
        CHECK.due("rise(0)", m.rise(0), 100002);
        ShiftMender longest = Laid.of("yg;s000123456789abcdef;s00................;");
        CHECK.due("rise(0) of 16 years", longest.rise(0), 100120);
        CHECK.due("rise(1) of 16 years", longest.rise(1), 100000);
        CHECK.due("rise(2) of two stations", longest.rise(2), -1);
    }
}
