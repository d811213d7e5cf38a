/** Promises 1 to 5: a new object, and the text of stations. */
public final class TextTest {
    private static final Check CHECK = new Check();

    public static void main(String[] args) {
        newObject();
        writing();
        wiping();
        textsWithoutFault();
        faultsOfYears();
        faultsOfStations();
        faultsOfParameters();
        faultChangesNothing();
        laying();
        layingWhatCannotBeLaid();
        fullText();
        CHECK.end();
    }

    private static void newObject() {
        ShiftMender m = new ShiftMender();
        int[] counts = {5, 14, 12, 2, 3, 2, 1, 9, 2, 0, 0};
        for (int what = 0; what < counts.length; what++) {
            CHECK.due("new: count(" + what + ")", m.count(what), counts[what]);
        }
        String[] rows = {"567567cbcdbcdc", "678678767b9aba", "456.565456.565", "78978987897898", "22233322233322"};
        for (int c = 0; c < rows.length; c++) {
            for (int t = 0; t < 14; t++) {
                int sign = Character.digit(rows[c].charAt(t), 36);
                CHECK.due("new: value(" + c + ", " + t + ")", m.value(c, t), sign < 0 ? -4 : 100000 + sign);
            }
        }
        int[][] nearest = {{1, 2, 3, 4}, {0, 3, 2, 4}, {0, 3, 1, 4}, {2, 1, 0, 4}, {3, 2, 1, 0}};
        for (int c = 0; c < 5; c++) {
            for (int k = 0; k < 4; k++) {
                CHECK.due("new: nearest(" + c + ", " + k + ")", m.nearest(c, k), nearest[c][k]);
            }
        }
        CHECK.due("new: ledger(-1, 0)", m.ledger(-1, 0), 0);
        CHECK.due("new: undo()", m.undo(), -2);
        CHECK.due("new: fault()", m.fault(), -4);
        CHECK.due("new: lay()", m.lay(), -2);
        CHECK.due("new: wipe()", m.wipe(), 0);
    }

    private static void writing() {
        ShiftMender m = new ShiftMender();
        CHECK.due("write(31)", m.write(31), -1);
        CHECK.due("write(127)", m.write(127), -1);
        CHECK.due("write(-1)", m.write(-1), -1);
        CHECK.due("write(121 + 65536)", m.write(121 + 65536), -1);
        CHECK.due("write(least)", m.write(Integer.MIN_VALUE), -1);
        CHECK.due("write(32)", m.write(32), 1);
        CHECK.due("write(126)", m.write(126), 2);
        CHECK.due("count(10)", m.count(10), 2);
        for (int i = 3; i <= 200; i++) {
            CHECK.due("write(48) as number " + i, m.write(48), i);
        }
        CHECK.due("write(48) when full", m.write(48), -3);
        CHECK.due("write(127) when full", m.write(127), -1);
        CHECK.due("count(10) when full", m.count(10), 200);
        CHECK.due("wipe() when full", m.wipe(), 200);
        CHECK.due("write(48) after wipe", m.write(48), 1);
    }

    private static void wiping() {
        ShiftMender m = new ShiftMender();
        CHECK.due("wipe() of nothing", m.wipe(), 0);
        Laid.write(m, "y4;x");
        CHECK.due("fault() before wipe", m.fault(), 3);
        CHECK.due("wipe()", m.wipe(), 4);
        CHECK.due("count(10)", m.count(10), 0);
        CHECK.due("fault() after wipe", m.fault(), -4);
        CHECK.due("stations stay", m.count(0), 5);
        Laid.write(m, "y");
        CHECK.due("fault() of y alone: nothing of the old text is read", m.fault(), 0);
    }

    private static void fault(String text, int due) {
        ShiftMender m = new ShiftMender();
        Laid.write(m, text);
        CHECK.due("fault() of " + text, m.fault(), due);
        CHECK.due("length of " + text, m.count(10), text.length());
        if (due >= 0) {
            CHECK.due("lay() of " + text, m.lay(), -2);
        }
    }

    private static void textsWithoutFault() {
        fault("", -4);
        fault("y4;", -4);
        fault("y9;", -4);
        fault("ya;", -4);
        fault("yg;", -4);
        fault("y4;s00....;", -4);
        fault("y4;sss....;", -4);
        fault("y4;s00019s;s9a.s.a;", -4);
        fault("y4;p00;", -4);
        fault("y4;p99;p01;", -4);
        fault("y4;l1110;", -4);
        fault("y4;l4552;l1110;p10;s000000;p10;l1110;", -4);
        fault("y4;s00....;s00....;s00....;s00....;s00....;s00....;", -4);
        fault("yg;s00................;", -4);
    }

    private static void faultsOfYears() {
        String[] texts = {"y", "y4", "y3;", "yh;", "ys;", "y0;", "yG;", "y.;", "y;", "y;;", "y44;", "y04;", " y4;",
            "Y4;", "p12;", "l2321;", "s000000;", ";", "p12;y4;", "x", "~", "y 4;", "y4:"};
        for (String text : texts) {
            fault(text, 0);
        }
        fault("y4;y4;", 3);
        fault("y4;y5;", 3);
        fault("y4;y", 3);
        fault("y4; ", 3);
        fault("y4;;", 3);
        fault("y4;x;y4;", 3);
        fault("y4;s00....;y4;", 11);
        fault("y4;S00....;", 3);
    }

    private static void faultsOfStations() {
        String[] items = {"s", "s0", "s00", "s00;", "s00...;", "s00.....;", "s00....", "st0....;", "s0t....;",
            "s00...t;", "s00t...;", "s.0....;", "s0.....;", "s00..;.;", "s00.A..;", "s00 ...;", "s00../.;",
            "s00..:.;", "s00..`.;", "s00....:", "s-1....;"};
        for (String item : items) {
            fault("y4;" + item, 3);
            fault("y4;s001234;" + item, 11);
        }
        fault("y5;s00....;", 3);
        fault("y5;s00.....;s00....;", 12);
        fault("y4;s00....;s00....;s00....;s00....;s00....;s00....;s00....;", 51);
        fault("y4;s00....;s00....;s00....;s00....;s00....;s00....;p12;s00....;x", 55);
        fault("y4;s00....;s00....;s00....;s00....;s00....;s00....;s", 51);
        fault("y4;s00....;s00....;x;s00....", 19);
    }

    private static void faultsOfParameters() {
        String[] items = {"p", "p1", "p12", "p1;", "p;", "p123;", "pa0;", "p0a;", "p-1;", "p1 ;", "p12:", "l", "l2321",
            "l232;", "l23211;", "l0321;", "l5321;", "l2021;", "l2621;", "l2301;", "l2361;", "l2323;", "l232a;",
            "la321;", "l2a21;", "l23a1;", "l.321;", "l232.;", "l2321:", "l;", "l 321;"};
        for (String item : items) {
            fault("y4;" + item, 3);
            fault("y4;p12;l2321;" + item + "s001234;", 13);
        }
    }

    private static void faultChangesNothing() {
        ShiftMender m = new ShiftMender();
        m.set(4, 0, 17);
        Laid.write(m, "y4;s000123;s001234;p77;l1110;");
        CHECK.due("fault()", m.fault(), -4);
        CHECK.due("stations", m.count(0), 5);
        CHECK.due("penalty", m.count(2), 12);
        CHECK.due("R", m.count(3), 2);
        CHECK.due("value", m.value(4, 0), 100017);
        CHECK.due("changes", m.count(9), 1);
        CHECK.due("station of the first culprit", m.culprit(0, 0), 1);
        CHECK.due("year of the first culprit", m.culprit(0, 1), 9);
    }

    private static void laying() {
        ShiftMender m = new ShiftMender();
        CHECK.due("mends()", m.mends(), 2);
        CHECK.due("culprit(-1, 0)", m.culprit(-1, 0), 0);
        Laid.write(m, "y6;p34;s00019.s0;l3210;s3400....;p56;s010.0.as;l4512;");
        CHECK.due("lay()", m.lay(), 3);
        int[] counts = {3, 6, 56, 4, 5, 1, 2, 3, 7, 0, 53};
        for (int what = 0; what < counts.length; what++) {
            CHECK.due("laid: count(" + what + ")", m.count(what), counts[what]);
        }
        String[] rows = {"019.s0", "00....", "0.0.as"};
        for (int c = 0; c < 3; c++) {
            for (int t = 0; t < 6; t++) {
                int sign = Character.digit(rows[c].charAt(t), 36);
                CHECK.due("laid: value(" + c + ", " + t + ")", m.value(c, t), sign < 0 ? -4 : 100000 + sign);
            }
        }
        CHECK.due("nearest(0, 0)", m.nearest(0, 0), 2);
        CHECK.due("nearest(1, 0)", m.nearest(1, 0), 2);
        CHECK.due("ledger(-1, 0)", m.ledger(-1, 0), 0);
        CHECK.due("ledger(0, 0)", m.ledger(0, 0), -4);
        CHECK.due("undo()", m.undo(), -2);
        CHECK.due("set(0, 0, 5)", m.set(0, 0, 5), 100000);
        CHECK.due("lay() again", m.lay(), 3);
        CHECK.due("value(0, 0)", m.value(0, 0), 100000);
        CHECK.due("undo() again", m.undo(), -2);
        m.wipe();
        Laid.write(m, "yg;s000000000000000000;s00ssssssssssssssss;");
        CHECK.due("lay() without parameters", m.lay(), 2);
        int[] usual = {2, 16, 20, 2, 3, 2, 0, 1, 0, 0, 43};
        for (int what = 0; what < usual.length; what++) {
            CHECK.due("usual: count(" + what + ")", m.count(what), usual[what]);
        }
        CHECK.due("value(1, 15)", m.value(1, 15), 100028);
        CHECK.due("value(2, 0)", m.value(2, 0), -1);
    }

    private static void layingWhatCannotBeLaid() {
        String[] texts = {"", "y4;", "y4;s000000;", "y4;p12;l2321;", "y4;s000000;s000000", "y4;s000000;s000000;x",
            "s000000;s000000;", "y4;s000000;s00000;"};
        for (String text : texts) {
            ShiftMender m = new ShiftMender();
            m.mend(0);
            m.set(4, 0, 20);
            Laid.write(m, text);
            CHECK.due("lay() of " + text, m.lay(), -2);
            CHECK.due("stations stay", m.count(0), 5);
            CHECK.due("years stay", m.count(1), 14);
            CHECK.due("penalty stays", m.count(2), 12);
            CHECK.due("W stays", m.count(6), 1);
            CHECK.due("values stay", m.value(4, 0), 100020);
            CHECK.due("ledger stays", m.ledger(-1, 0), 1);
            CHECK.due("text stays", m.count(10), text.length());
            CHECK.due("changes stay", m.undo(), 1);
        }
    }

    private static void fullText() {
        StringBuilder text = new StringBuilder("y5;");
        for (int c = 0; c < 5; c++) {
            text.append("s001234").append(c).append(';');
        }
        while (text.length() < 200) {
            text.append("p").append(10 + text.length() / 4).append(';');
        }
        ShiftMender m = new ShiftMender();
        Laid.write(m, text.toString());
        CHECK.due("count(10)", m.count(10), 200);
        CHECK.due("fault()", m.fault(), -4);
        CHECK.due("lay()", m.lay(), 5);
        CHECK.due("penalty of the last item", m.count(2), 10 + 197 / 4);
        CHECK.due("value(4, 4)", m.value(4, 4), 100004);
        m.wipe();
        Laid.write(m, text.substring(0, 196) + "s00123");
        CHECK.due("an item cut at 200 signs", m.fault(), 196);
        for (String item : new String[] {"y", "s", "p", "l", "x"}) {
            m = new ShiftMender();
            Laid.write(m, "y6;" + "s00012345;".repeat(6) + "p10;".repeat(34) + item);
            CHECK.due("an item that begins with the last sign", m.count(10), 200);
            CHECK.due("its fault", m.fault(), 199);
        }
    }
}
