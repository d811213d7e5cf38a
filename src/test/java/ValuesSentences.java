import java.math.BigInteger;
import java.util.ArrayList;
import java.util.List;
import java.util.function.Consumer;
import java.util.function.Supplier;

/** The sentences about values, parameters and changes: CHANGES, promises 6 to 12 and 31. */
final class ValuesSentences {
    private static final int LEAST = Integer.MIN_VALUE;
    private static final int GREATEST = Integer.MAX_VALUE;

    private final Sentences s;
    private final Check check;
    private final Refused refused;

    ValuesSentences(Sentences s, Check check) {
        this.s = s;
        this.check = check;
        this.refused = new Refused(check);
    }

    void all() {
        changes();
        value();
        set();
        lose();
        penalty();
        rule();
        undo();
        day();
        dayArguments();
        count();
    }

    /** Places that do not exist in an object: just outside, far outside. */
    static List<int[]> badPlaces(ShiftMender m) {
        int stations = m.count(0);
        int years = m.count(1);
        return List.of(new int[] {-1, 0}, new int[] {stations, 0}, new int[] {0, -1}, new int[] {0, years},
            new int[] {-1, -1}, new int[] {stations, years}, new int[] {LEAST, 0}, new int[] {GREATEST, 0},
            new int[] {0, LEAST}, new int[] {0, GREATEST});
    }

    private interface PlaceCall {
        long on(ShiftMender m, int c, int t);
    }

    /** The call has to answer BAD at each place that does not exist, and to change nothing. */
    private void badAtPlaces(String call, PlaceCall tried) {
        for (Supplier<ShiftMender> object : Refused.objects()) {
            for (int[] p : badPlaces(object.get())) {
                refused.due(call + " at " + p[0] + ", " + p[1], -1, m -> tried.on(m, p[0], p[1]), object);
            }
        }
    }

    // ---- CHANGES

    /** Each kind of change, once, on a new object. */
    private static List<Consumer<ShiftMender>> kinds() {
        return List.of(m -> m.set(4, 7, 25), m -> m.set(2, 3, 25), m -> m.lose(4, 8), m -> m.make(2, 10),
            m -> m.penalty(13), m -> m.rule(0, 1), m -> m.rule(1, 5), m -> m.rule(2, 3), m -> m.rule(3, 0),
            m -> m.mend(0), m -> m.day(42, 1));
    }

    private void changes() {
        s.under("CHANGES");
        s.test("The changes are: setting, losing and estimating a value, setting the penalty or another parameter, "
            + "and mending a culprit", () -> {
            List<Long> first = Whole.of(new ShiftMender());
            for (int i = 0; i < kinds().size(); i++) {
                ShiftMender m = new ShiftMender();
                kinds().get(i).accept(m);
                check.due("count(9) after kind " + i, m.count(9), 1);
                check.holds("kind " + i + " changes something", !Whole.of(m).equals(first));
                check.due("undo() of kind " + i, m.undo(), 0);
                check.holds("kind " + i + " is undone", Whole.of(m).equals(first));
                check.due("undo() of nothing more", m.undo(), -2);
            }
            ShiftMender m = new ShiftMender();
            m.write('y');
            m.fault();
            m.wipe();
            m.made(2, 3);
            m.least(0, 1, 0);
            m.breaks(0, 1, 5);
            check.due("other calls are no changes", m.count(9), 0);
        });
        s.test("The latest 8 of them can be undone", () -> {
            for (int i = 0; i < kinds().size(); i++) {
                oldestIsOneOf(i);
                latestIsOneOf(i);
            }
            roundAndRound();
            roundAndLaid();
        });
        s.test("When mending is undone, the culprit is removed from the ledger", () -> {
            ShiftMender m = CulpritSentences.fullLedger();
            for (int i = 7; i >= 0; i--) {
                check.due("undo()", m.undo(), i);
                check.due("ledger(-1, 0)", m.ledger(-1, 0), i + 2);
                check.due("the last entry", m.ledger(i + 1, 2), 100010);
                check.due("behind the last entry", m.ledger(i + 2, 2), -4);
            }
        });
        s.test("entries of the ledger whose mending cannot be undone any more stay", () -> {
            ShiftMender m = new ShiftMender();
            m.mends();
            for (int t = 0; t < 7; t++) {
                m.set(4, t, 50);
            }
            for (int i = 6; i >= 0; i--) {
                m.undo();
            }
            check.due("seven sets undone: ledger(-1, 0)", m.ledger(-1, 0), 2);
            check.due("undo() of the second mending", m.undo(), 0);
            check.due("ledger(-1, 0)", m.ledger(-1, 0), 1);
            check.due("the first mending can't be undone", m.undo(), -2);
            int[] due = {1, 9, 100003};
            for (int what = 0; what < 3; what++) {
                check.due("ledger(0, " + what + ")", m.ledger(0, what), due[what]);
            }
            check.due("its values stay as they are mended", m.value(1, 0), 100009);
        });
    }

    /** Pushed out by the ninth change, a change of this kind stays made. */
    private void oldestIsOneOf(int kind) {
        ShiftMender m = new ShiftMender();
        kinds().get(kind).accept(m);
        List<Long> after = Whole.of(m);
        for (int i = 0; i < 7; i++) {
            m.set(0, 0, 100 + i);
        }
        check.due("eight changes, the first one of kind " + kind, m.count(9), 8);
        m.set(0, 0, 200);
        check.due("nine changes, the first one of kind " + kind, m.count(9), 8);
        for (int i = 7; i >= 0; i--) {
            check.due("undo()", m.undo(), i);
        }
        check.due("a ninth undo()", m.undo(), -2);
        // all is as it was after the first change, but for the change that could be undone then
        check.holds("the oldest change stays, kind " + kind, sameButForChanges(Whole.of(m), after));
    }

    private static boolean sameButForChanges(List<Long> one, List<Long> other) {
        List<Long> a = new ArrayList<>(one);
        List<Long> b = new ArrayList<>(other);
        a.set(9, 0L);
        b.set(9, 0L);
        return a.equals(b);
    }

    /** As the ninth one, a change of this kind pushes out the oldest one. */
    private void latestIsOneOf(int kind) {
        ShiftMender m = new ShiftMender();
        for (int i = 0; i < 8; i++) {
            m.set(4, 13, 100 + i);
        }
        List<Long> before = Whole.of(m);
        check.due("count(9)", m.count(9), 8);
        kinds().get(kind).accept(m);
        check.due("count(9) with kind " + kind, m.count(9), 8);
        check.due("undo() of kind " + kind, m.undo(), 7);
        check.holds("undone, kind " + kind, sameButForChanges(Whole.of(m), before));
        for (int i = 6; i >= 0; i--) {
            check.due("undo()", m.undo(), i);
        }
        check.due("the first set stays", m.value(4, 13), 100100);
        check.due("a ninth undo()", m.undo(), -2);
        check.due("the first set stays", m.value(4, 13), 100100);
    }

    /** The latest eight again and again, some undone in between. */
    private void roundAndRound() {
        ShiftMender m = new ShiftMender();
        List<Integer> values = new ArrayList<>(List.of(5));
        int kept = 0;
        for (int i = 0; i < 60; i++) {
            if (i % 7 == 6) {
                for (int k = 0; k < i % 4 && kept > 0; k++) {
                    kept--;
                    values.remove(values.size() - 1);
                    check.due("undo(), round " + i, m.undo(), kept);
                }
            }
            m.set(0, 0, 1000 + i);
            values.add(1000 + i);
            kept = Math.min(kept + 1, 8);
            check.due("count(9), round " + i, m.count(9), kept);
            check.due("value(0, 0), round " + i, m.value(0, 0), 100000 + values.get(values.size() - 1));
        }
        for (int i = 7; i >= 0; i--) {
            values.remove(values.size() - 1);
            check.due("undo() at the end", m.undo(), i);
            check.due("value(0, 0) at the end", m.value(0, 0), 100000 + values.get(values.size() - 1));
        }
        check.due("undo() of nothing", m.undo(), -2);
    }

    /** A text is laid when the latest eight have gone round: from then on there are eight again. */
    private void roundAndLaid() {
        for (int before = 0; before <= 17; before++) {
            ShiftMender m = TextSentences.written("y4;s000000;s000000;");
            for (int i = 0; i < before; i++) {
                m.set(0, 0, 100 + i);
            }
            m.lay();
            for (int i = 1; i <= 9; i++) {
                m.set(0, 0, i);
            }
            for (int i = 7; i >= 0; i--) {
                check.due("undo(), laid after " + before, m.undo(), i);
                check.due("value(0, 0), laid after " + before, m.value(0, 0), 100001 + i);
            }
            check.due("undo() of nothing, laid after " + before, m.undo(), -2);
        }
    }

    // ---- promises 6 to 10

    private void value() {
        s.under("Promise 6");
        s.test("Returns a value.", () -> {
            refused.due("value(0, 0) changes nothing", 100005, m -> m.value(0, 0), ShiftMender::new);
            refused.due("value(2, 3) changes nothing", -4, m -> m.value(2, 3), ShiftMender::new);
        });
        s.test("`c`: number of the station", () -> {
            check.due("the last of 2", Laid.of("y4;s000000;s001111;").value(1, 0), 100001);
            check.due("behind the last of 2", Laid.of("y4;s000000;s001111;").value(2, 0), -1);
            ShiftMender six = Laid.of(TextSentences.empty(4, 5) + "s005555;");
            check.due("the last of 6", six.value(5, 0), 100005);
            check.due("behind the last of 6", six.value(6, 0), -1);
        });
        s.test("`t`: the year", () -> {
            ShiftMender m = Laid.of("yg;s000123456789abcdef;s00................;");
            for (int t = -2; t <= 18; t++) {
                check.due("value(0, " + t + ")", m.value(0, t), t < 0 || t > 15 ? -1 : 100000 + t);
            }
        });
        s.test("Returns the value plus ZERO", () -> {
            ShiftMender m = new ShiftMender();
            for (int value : new int[] {-9999, -1, 0, 1, 9999}) {
                m.set(0, 0, value);
                check.due("value " + value, m.value(0, 0), 100000 + value);
            }
        });
        s.test("NONE if it is missing", () -> {
            refused.due("value(2, 3)", -4, m -> m.value(2, 3), ShiftMender::new);
            refused.due("value(3, 13)", -4, m -> m.value(3, 13), Refused::busy);
            refused.due("value(5, 14)", -4, m -> m.value(5, 14), Refused::greatest);
        });
        s.test("BAD if there is no such station or year", () -> badAtPlaces("value", (m, c, t) -> m.value(c, t)));
    }

    private void set() {
        s.under("Promise 7");
        s.test("Sets a value.", () -> {
            ShiftMender m = Refused.greatest();
            m.set(5, 15, 7);
            m.set(0, 0, -7);
            check.due("value(5, 15)", m.value(5, 15), 100007);
            check.due("value(0, 0)", m.value(0, 0), 99993);
            check.due("value(5, 14)", m.value(5, 14), -4);
            check.due("value(4, 15)", m.value(4, 15), 100036);
            check.due("value(0, 1)", m.value(0, 1), -4);
        });
        s.test("`c`: number of the station", () -> {
            int[] due = {-1, -1, 100005, 100006, 100004, 100007, 100002, -1, -1};
            for (int c = -2; c <= 6; c++) {
                check.due("set(" + c + ", 0, 20)", new ShiftMender().set(c, 0, 20), due[c + 2]);
            }
        });
        s.test("`t`: the year", () -> {
            for (int t = -2; t <= 16; t++) {
                int due = t < 0 || t > 13 ? -1 : 100000 + "78978987897898".charAt(t) - '0';
                check.due("set(3, " + t + ", 20)", new ShiftMender().set(3, t, 20), due);
            }
        });
        s.test("`value`: -9999 to 9999", () -> {
            ShiftMender m = new ShiftMender();
            check.due("set(0, 0, -10000)", m.set(0, 0, -10000), -1);
            check.due("set(0, 0, -9999)", m.set(0, 0, -9999), 100005);
            check.due("set(0, 0, 9999)", m.set(0, 0, 9999), 90001);
            check.due("set(0, 0, 10000)", m.set(0, 0, 10000), -1);
            check.due("value(0, 0)", m.value(0, 0), 109999);
        });
        s.test("Returns the value before, plus ZERO", () -> {
            ShiftMender m = new ShiftMender();
            int before = 5;
            for (int value : new int[] {-9999, 9999, 0, -1, 1}) {
                check.due("set(0, 0, " + value + ")", m.set(0, 0, value), 100000 + before);
                before = value;
            }
        });
        s.test("NONE if it was missing (the value is set nevertheless)", () -> {
            for (int value : new int[] {-9999, -4, 0, 9999}) {
                ShiftMender m = new ShiftMender();
                check.due("set(2, 3, " + value + ")", m.set(2, 3, value), -4);
                check.due("value(2, 3)", m.value(2, 3), 100000 + value);
                check.due("count(8)", m.count(8), 1);
                check.due("count(9)", m.count(9), 1);
                check.due("undo()", m.undo(), 0);
                check.due("value(2, 3) undone", m.value(2, 3), -4);
            }
        });
        s.test("BAD if an argument is out of range", () -> {
            badAtPlaces("set", (m, c, t) -> m.set(c, t, 1));
            for (int value : new int[] {-10000, 10000, 100000, 1000000, -1000000, LEAST, GREATEST}) {
                refused.due("set(0, 0, " + value + ")", -1, m -> m.set(0, 0, value), Refused.objects());
                refused.due("set(2, 3, " + value + ")", -1, m -> m.set(2, 3, value), ShiftMender::new);
                refused.due("set(9, 99, " + value + ")", -1, m -> m.set(9, 99, value), ShiftMender::new);
            }
        });
        s.test("NO if this is the value already", () -> {
            refused.due("set(0, 0, 5)", -2, m -> m.set(0, 0, 5), ShiftMender::new);
            refused.due("set(4, 1, -9999)", -2, m -> m.set(4, 1, -9999), Refused::busy);
            refused.due("set(5, 15, 45)", -2, m -> m.set(5, 15, 45), Refused::greatest);
            refused.due("set(0, 0, 0)", -2, m -> m.set(0, 0, 0), Refused::greatest);
            ShiftMender m = new ShiftMender();
            m.set(0, 0, 9999);
            check.due("set(0, 0, 9999) again", m.set(0, 0, 9999), -2);
        });
    }

    private void lose() {
        s.under("Promise 8");
        s.test("Makes a value missing.", () -> {
            ShiftMender m = new ShiftMender();
            m.lose(0, 13);
            check.due("value(0, 13)", m.value(0, 13), -4);
            check.due("value(0, 12)", m.value(0, 12), 100013);
            check.due("value(1, 0)", m.value(1, 0), 100006);
            check.due("count(8)", m.count(8), 3);
        });
        s.test("`c`: number of the station", () -> {
            int[] due = {-1, -1, 100005, 100006, 100004, 100007, 100002, -1, -1};
            for (int c = -2; c <= 6; c++) {
                check.due("lose(" + c + ", 0)", new ShiftMender().lose(c, 0), due[c + 2]);
            }
        });
        s.test("`t`: the year", () -> {
            for (int t = -2; t <= 16; t++) {
                int due = t < 0 || t > 13 ? -1 : 100000 + "78978987897898".charAt(t) - '0';
                check.due("lose(3, " + t + ")", new ShiftMender().lose(3, t), due);
            }
        });
        s.test("Returns the value before, plus ZERO", () -> {
            for (int value : new int[] {-9999, -4, 0, 9999}) {
                ShiftMender m = new ShiftMender();
                m.set(0, 0, value);
                check.due("lose(0, 0)", m.lose(0, 0), 100000 + value);
            }
        });
        s.test("BAD if there is no such station or year", () -> badAtPlaces("lose", (m, c, t) -> m.lose(c, t)));
        s.test("NO if it is missing already", () -> {
            refused.due("lose(2, 3)", -2, m -> m.lose(2, 3), ShiftMender::new);
            refused.due("lose(3, 13)", -2, m -> m.lose(3, 13), Refused::busy);
            refused.due("lose(5, 14)", -2, m -> m.lose(5, 14), Refused::greatest);
        });
    }

    private void penalty() {
        s.under("Promise 9");
        s.test("Sets the penalty.", () -> {
            ShiftMender m = new ShiftMender();
            for (int p : new int[] {0, 1, 99998, 99999}) {
                m.penalty(p);
                check.due("count(2)", m.count(2), p);
                check.due("breaks", m.split(0, 1, -1), m.breaks(0, 1, p));
            }
        });
        s.test("`p`: 0 to 99999", () -> {
            int[][] due = {{-1, -1}, {0, 12}, {1, 12}, {99998, 12}, {99999, 12}, {100000, -1}};
            for (int[] d : due) {
                check.due("penalty(" + d[0] + ")", new ShiftMender().penalty(d[0]), d[1]);
            }
        });
        s.test("Returns the penalty before", () -> {
            ShiftMender m = new ShiftMender();
            check.due("penalty(0)", m.penalty(0), 12);
            check.due("penalty(99999)", m.penalty(99999), 0);
            check.due("penalty(0)", m.penalty(0), 99999);
            check.due("the usual one", Laid.of(TextSentences.empty(4, 2)).penalty(0), 20);
        });
        s.test("BAD if p is out of range", () -> {
            for (int p : new int[] {-1, 100000, -2, 100001, LEAST, GREATEST}) {
                refused.due("penalty(" + p + ")", -1, m -> m.penalty(p), Refused.objects());
            }
        });
        s.test("NO if this is the penalty already", () -> {
            refused.due("penalty(12)", -2, m -> m.penalty(12), ShiftMender::new);
            refused.due("penalty(13)", -2, m -> m.penalty(13), Refused::busy);
            refused.due("penalty(1)", -2, m -> m.penalty(1), Refused::smallest);
            refused.due("penalty(0)", -2, m -> m.penalty(0), Refused::greatest);
        });
    }

    private void rule() {
        s.under("Promise 10");
        s.test("Sets another parameter.", () -> {
            for (int what = 0; what < 4; what++) {
                ShiftMender m = new ShiftMender();
                int[] due = {2, 3, 2, 1};
                m.rule(what, due[what] - 1);
                due[what]--;
                for (int other = 0; other < 4; other++) {
                    check.due("rule(" + what + ", ..): count(" + (3 + other) + ")", m.count(3 + other), due[other]);
                }
                check.due("the penalty stays", m.count(2), 12);
            }
        });
        s.test("`what`: 0: R; 1: N; 2: T; 3: W", () -> {
            int[] due = {-1, 2, 3, 2, 1, -1};
            int[] number = {1, 4, 4, 4, 2, 1};
            for (int what = -1; what <= 4; what++) {
                ShiftMender m = new ShiftMender();
                check.due("rule(" + what + ", " + number[what + 1] + ")", m.rule(what, number[what + 1]),
                    due[what + 1]);
                for (int k = 0; k < 4; k++) {
                    check.due("count(" + (3 + k) + ")", m.count(3 + k), k == what ? number[k + 1] : due[k + 1]);
                }
            }
        });
        s.test("`number`: the new value, in the range of the parameter", () -> {
            int[][] ranges = {{1, 4}, {1, 5}, {1, 5}, {0, 2}};
            for (int what = 0; what < 4; what++) {
                for (int number = -2; number <= 7; number++) {
                    ShiftMender m = new ShiftMender();
                    int before = m.count(3 + what);
                    boolean fine = number >= ranges[what][0] && number <= ranges[what][1];
                    m.rule(what, number);
                    check.due("rule(" + what + ", " + number + ")", m.count(3 + what), fine ? number : before);
                }
            }
        });
        s.test("Returns the value before", () -> {
            int[][] due = {{2, 1, 4}, {3, 1, 5}, {2, 1, 5}, {1, 0, 2}};
            for (int what = 0; what < 4; what++) {
                ShiftMender m = new ShiftMender();
                check.due("to the least", m.rule(what, due[what][1]), due[what][0]);
                check.due("to the greatest", m.rule(what, due[what][2]), due[what][1]);
                check.due("and back", m.rule(what, due[what][0]), due[what][2]);
            }
        });
        s.test("BAD if an argument is out of range", () -> {
            int[][] bad = {{0, 0}, {0, 5}, {1, 0}, {1, 6}, {2, 0}, {2, 6}, {3, -1}, {3, 3}, {-1, 1}, {4, 1},
                {0, LEAST}, {3, GREATEST}, {LEAST, 1}, {GREATEST, 1}};
            for (int[] b : bad) {
                refused.due("rule(" + b[0] + ", " + b[1] + ")", -1, m -> m.rule(b[0], b[1]), Refused.objects());
            }
        });
        s.test("NO if this is the value already", () -> {
            int[][] now = {{2, 3, 2, 1}, {2, 3, 2, 0}, {2, 1, 1, 0}, {1, 5, 1, 2}};
            for (int i = 0; i < now.length; i++) {
                for (int what = 0; what < 4; what++) {
                    int k = what;
                    int number = now[i][what];
                    refused.due("rule(" + k + ", " + number + ")", -2, m -> m.rule(k, number),
                        Refused.objects().get(i));
                }
            }
        });
    }

    // ---- promises 11, 12, 31

    private void undo() {
        s.under("Promise 11");
        s.test("Undoes the latest change.", () -> {
            List<List<Long>> states = new ArrayList<>();
            ShiftMender m = new ShiftMender();
            List<Consumer<ShiftMender>> all = List.of(kinds().get(0), kinds().get(2), kinds().get(3),
                kinds().get(4), kinds().get(9), kinds().get(8));
            for (int changes = 0; changes <= all.size(); changes++) {
                ShiftMender fresh = new ShiftMender();
                for (int i = 0; i < changes; i++) {
                    all.get(i).accept(fresh);
                }
                states.add(Whole.of(fresh));
            }
            for (int undone = 1; undone <= all.size(); undone++) {
                m = new ShiftMender();
                for (Consumer<ShiftMender> change : all) {
                    change.accept(m);
                }
                for (int i = 0; i < undone; i++) {
                    m.undo();
                }
                check.holds(undone + " undone", Whole.of(m).equals(states.get(all.size() - undone)));
            }
        });
        s.test("Returns how many changes can still be undone", () -> {
            for (int changes = 1; changes <= 10; changes++) {
                ShiftMender m = new ShiftMender();
                for (int i = 0; i < changes; i++) {
                    m.set(0, 0, 100 + i);
                }
                check.due("undo() of " + changes, m.undo(), Math.min(changes, 8) - 1);
                check.due("count(9)", m.count(9), Math.min(changes, 8) - 1);
            }
        });
        s.test("NO if none can", () -> {
            refused.due("undo() of a new object", -2, ShiftMender::undo, ShiftMender::new);
            refused.due("undo() of what is laid", -2, ShiftMender::undo, Refused::smallest);
            refused.due("undo() when all is undone", -2, ShiftMender::undo, () -> {
                ShiftMender m = Refused.busy();
                for (int i = 0; i < 8; i++) {
                    m.undo();
                }
                return m;
            });
        });
    }

    /** The station, year and value (29: missing) of a step of day(), by arithmetic without bounds. */
    private static int[] step(int z, int k, int stations, int years) {
        BigInteger x = BigInteger.valueOf(7919).multiply(BigInteger.valueOf(z))
            .add(BigInteger.valueOf(6151).multiply(BigInteger.valueOf(k))).add(BigInteger.ONE);
        int d = x.multiply(x).mod(BigInteger.valueOf(65521)).intValue();
        return new int[] {d % stations, (d / 8) % years, (d / 128) % 30};
    }

    private void day() {
        s.under("Promise 12");
        s.test("Makes n pseudo-random changes of values.", () -> {
            // of these the changes are all different from what was there: see the long arithmetic below
            for (int n = 1; n <= 20; n++) {
                check.due("day(100, " + n + ")", new ShiftMender().day(100, n), n);
            }
        });
        s.test("The k-th time, from 0, let x = 7919 * z + 6151 * k + 1 and d = (x * x) % 65521 (long arithmetic)",
            () -> {
                for (int z : new int[] {0, 1, 5, 270, 271, 5000, 9998, 9999}) {
                    for (int n : new int[] {1, 2, 3, 10, 19, 20}) {
                        sameDay(new ShiftMender(), z, n);
                    }
                }
            });
        s.test("The station d % (number of stations) gets in the year (d / 8) % M the value (d / 128) % 30", () -> {
            for (int stations = 2; stations <= 6; stations++) {
                for (int years : new int[] {4, 5, 7, 16}) {
                    sameDay(Laid.of(TextSentences.empty(years, stations)), 9999, 20);
                    sameDay(Laid.of(TextSentences.empty(years, stations)), 0, 20);
                }
            }
        });
        s.test("but if this is 29 the value becomes missing", () -> {
            int seen = 0;
            for (int z = 0; z <= 9999 && seen < 20; z++) {
                int[] step = step(z, 0, 5, 14);
                ShiftMender m = new ShiftMender();
                if (step[2] == 29 && m.value(step[0], step[1]) >= 0) {
                    seen++;
                    check.due("day(" + z + ", 1)", m.day(z, 1), 1);
                    check.due("value after it", m.value(step[0], step[1]), -4);
                    check.due("day(" + z + ", 1) again: it is missing already", m.day(z, 1), 0);
                } else if (step[2] == 28 && seen < 3) {
                    m.day(z, 1);
                    check.due("28 is a value", m.value(step[0], step[1]), 100028);
                }
            }
            check.due("seen", seen, 20);
        });
        s.test("Each time when it is different from what it was before, this is a change", () -> {
            ShiftMender m = new ShiftMender();
            check.due("day(42, 1)", m.day(42, 1), 1);
            refused.due("day(42, 1) again", 0, x -> x.day(42, 1), () -> {
                ShiftMender x = new ShiftMender();
                x.day(42, 1);
                return x;
            });
            // each step is a change of its own: all but eight of twenty are pushed out
            ShiftMender day = new ShiftMender();
            ShiftMender steps = new ShiftMender();
            check.due("day(100, 20)", day.day(100, 20), 20);
            check.due("day(100, 12)", steps.day(100, 12), 12);
            check.due("count(9)", day.count(9), 8);
            for (int i = 7; i >= 0; i--) {
                check.due("undo()", day.undo(), i);
            }
            check.due("undo() too far", day.undo(), -2);
            check.holds("the first twelve stay", sameButForChanges(Whole.of(day), Whole.of(steps)));
        });
    }

    /** After the call the values have to be as told, and no others have to have changed. */
    private void sameDay(ShiftMender m, int z, int n) {
        int stations = m.count(0);
        int years = m.count(1);
        int[][] due = new int[stations][years];
        for (int c = 0; c < stations; c++) {
            for (int t = 0; t < years; t++) {
                due[c][t] = m.value(c, t);
            }
        }
        int changes = 0;
        for (int k = 0; k < n; k++) {
            int[] step = step(z, k, stations, years);
            int value = step[2] == 29 ? -4 : 100000 + step[2];
            changes += due[step[0]][step[1]] == value ? 0 : 1;
            due[step[0]][step[1]] = value;
        }
        check.due("day(" + z + ", " + n + ")", m.day(z, n), changes);
        check.due("count(9)", m.count(9), Math.min(changes, 8));
        for (int c = 0; c < stations; c++) {
            for (int t = 0; t < years; t++) {
                check.due("value(" + c + ", " + t + ") after the day", m.value(c, t), due[c][t]);
            }
        }
    }

    private void dayArguments() {
        s.test("`z`: 0 to 9999", () -> {
            int[][] due = {{-1, -1}, {0, 1}, {1, 1}, {9998, 1}, {9999, 1}, {10000, -1}};
            for (int[] d : due) {
                check.due("day(" + d[0] + ", 1)", Laid.of(TextSentences.empty(4, 2)).day(d[0], 1), d[1]);
            }
        });
        s.test("`n`: 1 to 20", () -> {
            for (int n = -1; n <= 22; n++) {
                int due = n < 1 || n > 20 ? -1 : n;
                check.due("day(100, " + n + ")", new ShiftMender().day(100, n), due);
            }
        });
        s.test("Returns how many changes there were", () -> {
            for (int z = 0; z <= 9999; z += 1111) {
                sameDay(new ShiftMender(), z, 20);
                sameDay(Laid.of("y4;s000000;s000000;"), z, 20);
            }
        });
        s.test("BAD if an argument is out of range", () -> {
            int[][] bad = {{-1, 1}, {10000, 1}, {0, 0}, {0, 21}, {0, -1}, {-1, 0}, {10000, 21}, {LEAST, 1},
                {GREATEST, 1}, {0, LEAST}, {0, GREATEST}};
            for (int[] b : bad) {
                refused.due("day(" + b[0] + ", " + b[1] + ")", -1, m -> m.day(b[0], b[1]), Refused.objects());
            }
        });
    }

    private void count() {
        s.under("Promise 31");
        s.test("Returns a count.", () -> {
            for (int what = 0; what <= 10; what++) {
                int k = what;
                long due = Refused.busy().count(what);
                refused.due("count(" + what + ") changes nothing", due, m -> m.count(k), Refused::busy);
            }
        });
        s.test("`what`: 0: stations; 1: years; 2: the penalty; 3: R; 4: N; 5: T; 6: W; 7: pairs; 8: missing values; "
            + "9: changes that can be undone; 10: characters of the text", () -> {
            int[][] due = {
                {5, 14, 12, 2, 3, 2, 1, 9, 2, 0, 0},
                {5, 14, 13, 2, 3, 2, 0, 9, 2, 8, 19},
                {2, 4, 1, 2, 1, 1, 0, 1, 0, 0, 29},
                {6, 16, 0, 1, 5, 1, 2, 15, 84, 8, 6},
            };
            for (int i = 0; i < due.length; i++) {
                for (int what = 0; what <= 10; what++) {
                    check.due("object " + i + ": count(" + what + ")", Refused.objects().get(i).get().count(what),
                        due[i][what]);
                }
            }
        });
        s.test("Returns the count", () -> {
            check.due("no value is missing", Laid.of("y4;s000000;s000000;").count(8), 0);
            check.due("all values are missing", Laid.of(TextSentences.empty(16, 6)).count(8), 96);
            check.due("200 characters", TextSentences.written("x".repeat(200)).count(10), 200);
            // each one is nearest to station 0 or is it, by number
            check.due("fewest pairs of six", Laid.of(TextSentences.empty(4, 6) + "l2120;").count(7), 5);
        });
        s.test("BAD if what is out of range", () -> {
            for (int what : new int[] {-1, 11, -2, 12, LEAST, GREATEST}) {
                refused.due("count(" + what + ")", -1, m -> m.count(what), Refused.objects());
            }
        });
    }
}
