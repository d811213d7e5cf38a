/** Promises 6 to 12 and 31: values, parameters, undoing, days and counts. */
public final class ValuesTest {
    private static final Check CHECK = new Check();

    public static void main(String[] args) {
        values();
        setting();
        losing();
        penalties();
        rules();
        undoing();
        undoingTheLatestEight();
        undoingMendings();
        days();
        dayMakesMissing();
        counts();
        CHECK.end();
    }

    /** The answers to all places that do not exist. */
    private static int[][] badPlaces() {
        return new int[][] {{-1, 0}, {5, 0}, {0, -1}, {0, 14}, {6, 16}, {Integer.MAX_VALUE, 0},
            {0, Integer.MAX_VALUE}, {Integer.MIN_VALUE, 0}, {0, Integer.MIN_VALUE}};
    }

    private static void values() {
        ShiftMender m = new ShiftMender();
        for (int[] p : badPlaces()) {
            CHECK.due("value(" + p[0] + ", " + p[1] + ")", m.value(p[0], p[1]), -1);
        }
        CHECK.due("value(0, 0)", m.value(0, 0), 100005);
        CHECK.due("value(4, 13)", m.value(4, 13), 100002);
        CHECK.due("value(2, 3)", m.value(2, 3), -4);
        CHECK.due("value(2, 10)", m.value(2, 10), -4);
    }

    private static void setting() {
        ShiftMender m = new ShiftMender();
        for (int[] p : badPlaces()) {
            CHECK.due("set(" + p[0] + ", " + p[1] + ", 1)", m.set(p[0], p[1], 1), -1);
        }
        CHECK.due("set(0, 0, 10000)", m.set(0, 0, 10000), -1);
        CHECK.due("set(0, 0, -10000)", m.set(0, 0, -10000), -1);
        CHECK.due("set(0, 0, 1000000)", m.set(0, 0, 1000000), -1);
        CHECK.due("set(2, 3, 1000000)", m.set(2, 3, 1000000), -1);
        CHECK.due("set(0, 0, greatest)", m.set(0, 0, Integer.MAX_VALUE), -1);
        CHECK.due("set(0, 0, least)", m.set(0, 0, Integer.MIN_VALUE), -1);
        CHECK.due("set(0, 0, 5)", m.set(0, 0, 5), -2);
        CHECK.due("no change", m.count(9), 0);
        CHECK.due("set(0, 0, 9999)", m.set(0, 0, 9999), 100005);
        CHECK.due("value(0, 0)", m.value(0, 0), 109999);
        CHECK.due("set(0, 0, -9999)", m.set(0, 0, -9999), 109999);
        CHECK.due("value(0, 0)", m.value(0, 0), 90001);
        CHECK.due("set(2, 3, 0)", m.set(2, 3, 0), -4);
        CHECK.due("value(2, 3)", m.value(2, 3), 100000);
        CHECK.due("set(2, 3, 0)", m.set(2, 3, 0), -2);
        CHECK.due("three changes", m.count(9), 3);
        CHECK.due("other values stay", m.value(2, 2), 100006);
        CHECK.due("other values stay", m.value(3, 3), 100007);
    }

    private static void losing() {
        ShiftMender m = new ShiftMender();
        for (int[] p : badPlaces()) {
            CHECK.due("lose(" + p[0] + ", " + p[1] + ")", m.lose(p[0], p[1]), -1);
        }
        CHECK.due("lose(2, 3)", m.lose(2, 3), -2);
        CHECK.due("no change", m.count(9), 0);
        CHECK.due("lose(4, 13)", m.lose(4, 13), 100002);
        CHECK.due("value(4, 13)", m.value(4, 13), -4);
        CHECK.due("lose(4, 13)", m.lose(4, 13), -2);
        CHECK.due("set(0, 0, -9999)", m.set(0, 0, -9999), 100005);
        CHECK.due("lose(0, 0)", m.lose(0, 0), 90001);
        CHECK.due("three changes", m.count(9), 3);
        CHECK.due("missing", m.count(8), 4);
    }

    private static void penalties() {
        ShiftMender m = new ShiftMender();
        CHECK.due("penalty(-1)", m.penalty(-1), -1);
        CHECK.due("penalty(100000)", m.penalty(100000), -1);
        CHECK.due("penalty(greatest)", m.penalty(Integer.MAX_VALUE), -1);
        CHECK.due("penalty(12)", m.penalty(12), -2);
        CHECK.due("no change", m.count(9), 0);
        CHECK.due("penalty(99999)", m.penalty(99999), 12);
        CHECK.due("penalty(0)", m.penalty(0), 99999);
        CHECK.due("penalty(0)", m.penalty(0), -2);
        CHECK.due("count(2)", m.count(2), 0);
        CHECK.due("two changes", m.count(9), 2);
    }

    private static void rules() {
        int[] least = {1, 1, 1, 0};
        int[] greatest = {4, 5, 5, 2};
        int[] first = {2, 3, 2, 1};
        ShiftMender m = new ShiftMender();
        for (int what = 0; what < 4; what++) {
            CHECK.due("rule below, " + what, m.rule(what, least[what] - 1), -1);
            CHECK.due("rule above, " + what, m.rule(what, greatest[what] + 1), -1);
            CHECK.due("rule far below, " + what, m.rule(what, Integer.MIN_VALUE), -1);
            CHECK.due("rule as it is, " + what, m.rule(what, first[what]), -2);
            CHECK.due("no change, " + what, m.count(9), 2 * what);
            CHECK.due("rule least, " + what, m.rule(what, least[what]), first[what]);
            CHECK.due("rule greatest, " + what, m.rule(what, greatest[what]), least[what]);
            CHECK.due("count, " + what, m.count(3 + what), greatest[what]);
        }
        CHECK.due("rule(-1, 1)", m.rule(-1, 1), -1);
        CHECK.due("rule(4, 1)", m.rule(4, 1), -1);
        CHECK.due("rule(greatest, 1)", m.rule(Integer.MAX_VALUE, 1), -1);
        CHECK.due("rule(least, 1)", m.rule(Integer.MIN_VALUE, 1), -1);
    }

    private static void undoing() {
        ShiftMender m = new ShiftMender();
        CHECK.due("undo() of nothing", m.undo(), -2);
        m.set(0, 0, 77);
        m.set(2, 3, 8);
        m.lose(4, 4);
        m.penalty(50);
        m.rule(3, 2);
        m.make(2, 10);
        m.rule(0, 1);
        CHECK.due("count(9)", m.count(9), 7);
        CHECK.due("undo() of rule", m.undo(), 6);
        CHECK.due("R", m.count(3), 2);
        CHECK.due("undo() of make", m.undo(), 5);
        CHECK.due("value(2, 10)", m.value(2, 10), -4);
        CHECK.due("undo() of rule", m.undo(), 4);
        CHECK.due("W", m.count(6), 1);
        CHECK.due("undo() of penalty", m.undo(), 3);
        CHECK.due("penalty", m.count(2), 12);
        CHECK.due("undo() of lose", m.undo(), 2);
        CHECK.due("value(4, 4)", m.value(4, 4), 100003);
        CHECK.due("undo() of set", m.undo(), 1);
        CHECK.due("value(2, 3)", m.value(2, 3), -4);
        CHECK.due("undo() of set", m.undo(), 0);
        CHECK.due("value(0, 0)", m.value(0, 0), 100005);
        CHECK.due("undo() of nothing", m.undo(), -2);
        CHECK.due("the culprits are as at first", m.culprit(-1, 0), 2);
        m.write(121);
        CHECK.due("writing is no change", m.undo(), -2);
    }

    private static void undoingTheLatestEight() {
        ShiftMender m = new ShiftMender();
        for (int i = 1; i <= 11; i++) {
            m.set(0, 0, 100 + i);
            CHECK.due("count(9) after " + i, m.count(9), Math.min(i, 8));
        }
        m.set(0, 0, 111);
        m.lose(2, 3);
        m.penalty(12);
        m.rule(0, 5);
        CHECK.due("what is no change takes no place", m.count(9), 8);
        for (int i = 7; i >= 0; i--) {
            CHECK.due("undo() to " + i, m.undo(), i);
            CHECK.due("value(0, 0)", m.value(0, 0), 100000 + 103 + i);
        }
        CHECK.due("undo()", m.undo(), -2);
        CHECK.due("value(0, 0)", m.value(0, 0), 100103);
        CHECK.due("set(0, 0, 5)", m.set(0, 0, 5), 100103);
        CHECK.due("undo()", m.undo(), 0);
    }

    private static void undoingMendings() {
        ShiftMender m = new ShiftMender();
        CHECK.due("mends()", m.mends(), 2);
        for (int t = 0; t < 7; t++) {
            m.set(4, t, 50);
        }
        CHECK.due("undo() of set", m.undo(), 7);
        for (int i = 6; i >= 1; i--) {
            CHECK.due("undo() of set", m.undo(), i);
        }
        CHECK.due("ledger(-1, 0)", m.ledger(-1, 0), 2);
        CHECK.due("undo() of a mending", m.undo(), 0);
        CHECK.due("ledger(-1, 0)", m.ledger(-1, 0), 1);
        CHECK.due("ledger(0, 0)", m.ledger(0, 0), 1);
        CHECK.due("the earlier mending stays in the ledger", m.undo(), -2);
        CHECK.due("ledger(-1, 0)", m.ledger(-1, 0), 1);
        CHECK.due("value(0, 5)", m.value(0, 5), 100007);
        CHECK.due("value(0, 6)", m.value(0, 6), 100012);
        CHECK.due("value(1, 8)", m.value(1, 8), 100010);
        CHECK.due("mends()", m.mends(), 1);
        CHECK.due("value(0, 5)", m.value(0, 5), 100013);
        CHECK.due("undo()", m.undo(), 0);
        CHECK.due("value(0, 5)", m.value(0, 5), 100007);
        CHECK.due("value(0, 6)", m.value(0, 6), 100012);
    }

    private static void days() {
        int[] stations = {5, 2};
        int[] years = {14, 16};
        for (int object = 0; object < 2; object++) {
            for (int z : new int[] {0, 1, 77, 4711, 9998, 9999}) {
                for (int n : new int[] {1, 2, 19, 20}) {
                    ShiftMender m = object == 0 ? new ShiftMender()
                        : Laid.of("yg;s000000000000000000;s00................;");
                    oneDay(m, z, n, stations[object], years[object]);
                }
            }
        }
        ShiftMender m = new ShiftMender();
        int[][] bad = {{-1, 1}, {10000, 1}, {0, 0}, {0, 21}, {0, -1}, {Integer.MAX_VALUE, 1},
            {0, Integer.MAX_VALUE}, {Integer.MIN_VALUE, Integer.MIN_VALUE}};
        for (int[] b : bad) {
            CHECK.due("day(" + b[0] + ", " + b[1] + ")", m.day(b[0], b[1]), -1);
        }
        CHECK.due("no change", m.count(9), 0);
        int first = m.day(9, 20);
        CHECK.due("undo()", m.undo(), Math.min(first, 8) - 1);
    }

    private static void oneDay(ShiftMender m, int z, int n, int stations, int years) {
        int[][] want = new int[stations][years];
        for (int c = 0; c < stations; c++) {
            for (int t = 0; t < years; t++) {
                want[c][t] = m.value(c, t);
            }
        }
        int changes = 0;
        for (int k = 0; k < n; k++) {
            java.math.BigInteger x = java.math.BigInteger.valueOf(7919L * z + 6151L * k + 1);
            int d = x.multiply(x).mod(java.math.BigInteger.valueOf(65521)).intValue();
            int value = (d / 128) % 30;
            int answer = value == 29 ? -4 : value + 100000;
            changes += want[d % stations][(d / 8) % years] == answer ? 0 : 1;
            want[d % stations][(d / 8) % years] = answer;
        }
        String call = "day(" + z + ", " + n + ")";
        CHECK.due(call, m.day(z, n), changes);
        CHECK.due("changes of " + call, m.count(9), Math.min(changes, 8));
        for (int c = 0; c < stations; c++) {
            for (int t = 0; t < years; t++) {
                CHECK.due(call + ": value(" + c + ", " + t + ")", m.value(c, t), want[c][t]);
            }
        }
    }

    private static void dayMakesMissing() {
        int seen = 0;
        for (int z = 0; z < 200; z++) {
            ShiftMender m = new ShiftMender();
            int missing = m.count(8);
            if (m.day(z, 1) == 1 && m.count(8) > missing) {
                seen++;
                CHECK.due("undo()", m.undo(), 0);
                CHECK.due("missing", m.count(8), missing);
            }
        }
        CHECK.holds("some days make a value missing", seen > 0);
        ShiftMender m = new ShiftMender();
        int first = m.day(42, 1);
        CHECK.due("day(42, 1)", first, 1);
        CHECK.due("day(42, 1) once more", m.day(42, 1), 0);
        CHECK.due("count(9)", m.count(9), 1);
    }

    private static void counts() {
        ShiftMender m = new ShiftMender();
        CHECK.due("count(-1)", m.count(-1), -1);
        CHECK.due("count(11)", m.count(11), -1);
        CHECK.due("count(greatest)", m.count(Integer.MAX_VALUE), -1);
        CHECK.due("count(least)", m.count(Integer.MIN_VALUE), -1);
        m.rule(0, 4);
        m.rule(1, 5);
        m.rule(2, 3);
        m.rule(3, 0);
        m.penalty(4321);
        m.lose(1, 1);
        m.write(65);
        m.write(66);
        int[] counts = {5, 14, 4321, 4, 5, 3, 0, 10, 3, 6, 2};
        for (int what = 0; what < counts.length; what++) {
            CHECK.due("count(" + what + ")", m.count(what), counts[what]);
        }
        m.rule(1, 1);
        CHECK.due("pairs with N = 1", m.count(7), 4);
        CHECK.due("nothing but reading", m.count(9), 7);
    }
}
