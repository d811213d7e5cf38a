import java.util.List;
import java.util.function.Supplier;
import java.util.function.ToLongFunction;

/**
 * Calls that are to change nothing. A call is tried on an object; then this object has to go on as another one, made
 * in the same way, on which it was not tried: as it is, with one or all changes undone, and with its text laid.
 */
final class Refused {
    private final Check check;

    Refused(Check check) {
        this.check = check;
    }

    /** The call has to answer so on each of these objects, and to change nothing. */
    void due(String call, long answer, ToLongFunction<ShiftMender> tried, List<Supplier<ShiftMender>> objects) {
        for (Supplier<ShiftMender> object : objects) {
            due(call, answer, tried, object);
        }
    }

    void due(String call, long answer, ToLongFunction<ShiftMender> tried, Supplier<ShiftMender> object) {
        for (int undone : new int[] {0, 1, 8}) {
            ShiftMender one = object.get();
            ShiftMender other = object.get();
            check.due(call, tried.applyAsLong(one), answer);
            for (int i = 0; i < undone; i++) {
                check.due("undo() after " + call, one.undo(), other.undo());
            }
            check.holds(call + " changes nothing; " + undone + " undone", Whole.of(one).equals(Whole.of(other)));
        }
        ShiftMender one = object.get();
        ShiftMender other = object.get();
        check.due(call, tried.applyAsLong(one), answer);
        check.due("lay() after " + call, one.lay(), other.lay());
        check.holds(call + " does not change the text", Whole.of(one).equals(Whole.of(other)));
    }

    // ---- objects to try calls on

    /** Of each kind one: nothing done yet, much done, the smallest records, and the greatest ones. */
    static List<Supplier<ShiftMender>> objects() {
        return List.of(ShiftMender::new, Refused::busy, Refused::smallest, Refused::greatest);
    }

    /** Two mendings in the ledger, eight changes that can be undone, and a text that can be laid. */
    static ShiftMender busy() {
        ShiftMender m = new ShiftMender();
        Laid.write(m, "y4;s000000;s001234;");
        m.mends();
        m.set(4, 0, 9);
        m.set(4, 1, -9999);
        m.lose(3, 13);
        m.penalty(13);
        m.rule(3, 0);
        m.make(2, 10);
        return m;
    }

    /** Two stations, four years; nothing done yet. */
    static ShiftMender smallest() {
        return Laid.of("y4;s001234;s000099;l2110;p01;");
    }

    /** Six stations, sixteen years, each one a pair with each other one; a text that ends within an item. */
    static ShiftMender greatest() {
        ShiftMender m = Laid.of("yg;" + "s00................;".repeat(6) + "l1512;p00;");
        for (int c = 0; c < 6; c++) {
            m.set(c, c, 7 * c);
            m.set(c, 15, 9 * c);
        }
        m.wipe();
        Laid.write(m, "yg;s00");
        return m;
    }
}
