/** The three examples of the document, and its constants. */
public final class ExamplesTest {
    private static final Check CHECK = new Check();

    public static void main(String[] args) {
        constants();
        twoCulprits();
        nothingLeft();
        textThatCannotBeLaid();
        CHECK.end();
    }

    private static void constants() {
        CHECK.due("BAD", ShiftMender.BAD, -1);
        CHECK.due("NO", ShiftMender.NO, -2);
        CHECK.due("FULL", ShiftMender.FULL, -3);
        CHECK.due("NONE", ShiftMender.NONE, -4);
        CHECK.due("ZERO", ShiftMender.ZERO, 100000);
    }

    private static void twoCulprits() {
        ShiftMender m = new ShiftMender();
        CHECK.due("culprit(-1, 0)", m.culprit(-1, 0), 2);
        CHECK.due("culprit(0, 0)", m.culprit(0, 0), 1);
        CHECK.due("culprit(0, 1)", m.culprit(0, 1), 9);
        CHECK.due("culprit(0, 3)", m.culprit(0, 3), 100003);
        CHECK.due("votes(0, 6)", m.votes(0, 6), 3);
        CHECK.due("split(0, 1, -1)", m.split(0, 1, -1), 2);
        CHECK.due("cost(0, 1)", m.cost(0, 1), 17297280);
        CHECK.due("spreads(0, 1, 1)", m.spreads(0, 1, 1), 12162150);
        CHECK.due("least(0, 1, 0)", m.least(0, 1, 0), 59);
        CHECK.due("mend(0)", m.mend(0), 1);
        CHECK.due("ledger(0, 2)", m.ledger(0, 2), 100003);
        CHECK.due("value(0, 0)", m.value(0, 0), 100005);
        CHECK.due("undo()", m.undo(), 0);
        CHECK.due("ledger(-1, 0)", m.ledger(-1, 0), 0);
        CHECK.due("made(2, 3)", m.made(2, 3), 100003);
        CHECK.due("make(2, 3)", m.make(2, 3), 100003);
    }

    private static void nothingLeft() {
        ShiftMender m = new ShiftMender();
        CHECK.due("nearest(0, 0)", m.nearest(0, 0), 1);
        CHECK.due("nearest(0, 5)", m.nearest(0, 5), -4);
        CHECK.due("pair(0, 4)", m.pair(0, 4), 0);
        CHECK.due("pair(1, 1)", m.pair(1, 1), -1);
        CHECK.due("entry(2, 0, -1)", m.entry(2, 0, -1), 12);
        CHECK.due("entry(2, 0, 3)", m.entry(2, 0, 3), 99999);
        CHECK.due("year(2, 0, 3)", m.year(2, 0, 3), 4);
        CHECK.due("spread(2, 0, 0, 1)", m.spread(2, 0, 0, 1), 0);
        CHECK.due("rise(4)", m.rise(4), 100006);
        CHECK.due("mends()", m.mends(), 2);
        CHECK.due("mend(0)", m.mend(0), -4);
        CHECK.due("rule(2, 6)", m.rule(2, 6), -1);
        CHECK.due("rule(2, 2)", m.rule(2, 2), -2);
        CHECK.due("rule(2, 1)", m.rule(2, 1), 2);
        CHECK.due("culprit(-1, 3)", m.culprit(-1, 3), 0);
        CHECK.due("day(5, 3)", m.day(5, 3), 2);
    }

    private static void textThatCannotBeLaid() {
        ShiftMender m = new ShiftMender();
        String text = "y4;s001234;";
        for (int i = 0; i < text.length(); i++) {
            CHECK.due("write", m.write(text.charAt(i)), i + 1);
        }
        CHECK.due("fault()", m.fault(), -4);
        CHECK.due("lay()", m.lay(), -2);
        CHECK.due("write(115)", m.write(115), 12);
        CHECK.due("fault()", m.fault(), 11);
        CHECK.due("lay()", m.lay(), -2);
    }
}
