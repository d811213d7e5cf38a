import java.lang.reflect.InvocationTargetException;
import java.lang.reflect.Method;
import java.util.ArrayList;
import java.util.List;
import java.util.function.Supplier;

/** The sentences that bind all calls: ERRORS, and how often an object is used. */
final class ErrorSentences {
    private static final int[] ARGUMENTS = {Integer.MIN_VALUE, -10000, -2, -1, 0, 1, 2, 5, 6, 14, 16, 9999, 100000,
        Integer.MAX_VALUE};
    private static final int[] FEWER_ARGUMENTS = {Integer.MIN_VALUE, -1, 0, 1, 5, 16, Integer.MAX_VALUE};

    // As many calls as can be made on an object beside making it and looking at the whole of it, with 512 in all.
    private static final int CALLS_EACH = 30;

    private final Sentences s;
    private final Check check;
    private final Refused refused;

    ErrorSentences(Sentences s, Check check) {
        this.s = s;
        this.check = check;
        this.refused = new Refused(check);
    }

    void all() {
        use();
        errors();
        order();
        kinds();
        plusZero();
    }

    // ---- What it is

    private void use() {
        s.under("What it is");
        s.test("An object is used for at most 512 calls after it has been made", () -> {
            ShiftMender m = new ShiftMender();
            int before = 5;
            for (int call = 1; call <= 512; call++) {
                int value = call % 2 == 0 ? call : -call;
                check.due("call " + call + ": set", m.set(0, 0, value), 100000 + before);
                before = value;
            }
            ShiftMender undone = new ShiftMender();
            for (int call = 1; call <= 511; call += 2) {
                check.due("call " + call + ": mends", undone.mends(), call == 1 ? 2 : 1);
                check.due("call " + (call + 1) + ": undo", undone.undo(), 1);
            }
        });
    }

    // ---- ERRORS

    private static List<Method> methods() {
        List<Method> methods = new ArrayList<>();
        for (Method m : ShiftMender.class.getDeclaredMethods()) {
            if (java.lang.reflect.Modifier.isPublic(m.getModifiers())) {
                methods.add(m);
            }
        }
        methods.sort((a, b) -> a.getName().compareTo(b.getName()));
        return methods;
    }

    /** All ways to give these numbers to a call. */
    private static List<Object[]> allArguments(Method m) {
        int[] numbers = m.getParameterCount() > 2 ? FEWER_ARGUMENTS : ARGUMENTS;
        List<Object[]> all = new ArrayList<>();
        all.add(new Object[m.getParameterCount()]);
        for (int place = 0; place < m.getParameterCount(); place++) {
            List<Object[]> longer = new ArrayList<>();
            for (Object[] a : all) {
                for (int number : numbers) {
                    Object[] b = a.clone();
                    b[place] = number;
                    longer.add(b);
                }
            }
            all = longer;
        }
        return all;
    }

    /** The answer of a call; Long.MIN_VALUE if it throws. */
    private static long answer(ShiftMender m, Method call, Object[] arguments) {
        try {
            return ((Number) call.invoke(m, arguments)).longValue();
        } catch (InvocationTargetException | IllegalAccessException e) {
            return Long.MIN_VALUE;
        }
    }

    private void errors() {
        s.under("ERRORS");
        s.test("An error is reported by the return value", () -> {
            for (Supplier<ShiftMender> object : Refused.objects()) {
                for (Method call : methods()) {
                    ShiftMender m = object.get();
                    int calls = 0;
                    for (Object[] a : allArguments(call)) {
                        long answer = answer(m, call, a);
                        String name = call.getName() + java.util.Arrays.toString(a);
                        check.holds(name + " answers " + answer, answer >= -4);
                        calls++;
                        if (calls % CALLS_EACH == 0) {
                            m = object.get();
                        }
                    }
                }
            }
        });
        s.test("A call that returns an error changes nothing", () -> {
            for (Supplier<ShiftMender> object : Refused.objects()) {
                for (Method call : methods()) {
                    changesNothing(object, call);
                }
            }
        });
    }

    /** Tries all calls that are refused, so many on each object, and looks at the whole object then. */
    private void changesNothing(Supplier<ShiftMender> object, Method call) {
        List<Object[]> refusals = new ArrayList<>();
        List<Object[]> all = allArguments(call);
        for (Object[] a : all) {
            long answer = answer(object.get(), call, a);
            // set() alone answers an error and does what was asked: it tells that the value was missing
            if (answer < 0 && !(call.getName().equals("set") && answer == ShiftMender.NONE)) {
                refusals.add(a);
            }
        }
        for (int from = 0; from < refusals.size(); from += CALLS_EACH) {
            ShiftMender tried = object.get();
            ShiftMender other = object.get();
            for (int i = from; i < Math.min(from + CALLS_EACH, refusals.size()); i++) {
                answer(tried, call, refusals.get(i));
            }
            check.due("changes after refused " + call.getName(), tried.undo(), other.undo());
            check.holds("refused " + call.getName() + " changes nothing", Whole.of(tried).equals(Whole.of(other)));
        }
    }

    private void order() {
        s.test("If several errors apply, the first one in the order BAD, NO, NONE, FULL is returned", () -> {
            refused.due("BAD before FULL: write(31)", -1, m -> m.write(31), ErrorSentences::fullText);
            refused.due("BAD before NONE: nearest(5, 9)", -1, m -> m.nearest(5, 9), ShiftMender::new);
            refused.due("BAD before NONE: entry(1, 1, 99)", -1, m -> m.entry(1, 1, 99), ShiftMender::new);
            refused.due("BAD before NONE: year(0, 5, 99)", -1, m -> m.year(0, 5, 99), ShiftMender::new);
            refused.due("BAD before NONE: split(-1, 0, 99)", -1, m -> m.split(-1, 0, 99), ShiftMender::new);
            refused.due("BAD before NONE: spreads(5, 0, 99)", -1, m -> m.spreads(5, 0, 99), ShiftMender::new);
            refused.due("BAD before NONE: culprit(99, 4)", -1, m -> m.culprit(99, 4), ShiftMender::new);
            refused.due("BAD before NONE: ledger(99, 3)", -1, m -> m.ledger(99, 3), ShiftMender::new);
            Supplier<ShiftMender> apart = () -> Laid.of("y4;s000...;s00.0..;");
            check.due("NONE: nothing to estimate by", apart.get().made(0, 1), -4);
            refused.due("NO before NONE: made(0, 0)", -2, m -> m.made(0, 0), apart);
            refused.due("NO before NONE: make(0, 0)", -2, m -> m.make(0, 0), apart);
            refused.due("BAD before NO and NONE: made(0, 4)", -1, m -> m.made(0, 4), apart);
        });
        s.test("unless told otherwise", () -> {
            refused.due("mend(): NONE before FULL", -4, m -> m.mend(5), CulpritSentences::fullLedger);
            refused.due("mend(): BAD before FULL", -1, m -> m.mend(-1), CulpritSentences::fullLedger);
            refused.due("mend(): FULL before NO", -3, m -> m.mend(0), () -> {
                ShiftMender m = CulpritSentences.fullLedger();
                m.set(1, 14, 9999);
                m.set(1, 15, 9999);
                m.set(0, 14, -9999);
                m.set(0, 15, -9999);
                m.rule(0, 2);
                m.penalty(99999);
                return m;
            });
        });
    }

    private static ShiftMender fullText() {
        return TextSentences.written("y4;" + "p12;".repeat(49) + "x");
    }

    private void kinds() {
        s.test("BAD: an argument is out of range, or names something that does not exist", () -> {
            ShiftMender m = new ShiftMender();
            check.due("out of range", m.penalty(-1), ShiftMender.BAD);
            check.due("no such station", m.rise(5), ShiftMender.BAD);
            check.due("no such year", m.value(0, 14), ShiftMender.BAD);
            check.due("not another station", m.pair(1, 1), ShiftMender.BAD);
            check.due("no such entries", m.spread(0, 1, 0, 14), ShiftMender.BAD);
            check.due("no such parameter", m.rule(4, 1), ShiftMender.BAD);
            check.due("no such count", m.count(11), ShiftMender.BAD);
        });
        s.test("NO: the call is not possible, as told", () -> {
            ShiftMender m = new ShiftMender();
            check.due("lay()", m.lay(), ShiftMender.NO);
            check.due("undo()", m.undo(), ShiftMender.NO);
            check.due("set(0, 0, 5)", m.set(0, 0, 5), ShiftMender.NO);
            check.due("lose(2, 3)", m.lose(2, 3), ShiftMender.NO);
            check.due("penalty(12)", m.penalty(12), ShiftMender.NO);
            check.due("rule(0, 2)", m.rule(0, 2), ShiftMender.NO);
            check.due("made(0, 0)", m.made(0, 0), ShiftMender.NO);
            check.due("make(0, 0)", m.make(0, 0), ShiftMender.NO);
        });
        s.test("NONE: there is no value", () -> {
            ShiftMender m = new ShiftMender();
            check.due("fault()", m.fault(), ShiftMender.NONE);
            check.due("value(2, 3)", m.value(2, 3), ShiftMender.NONE);
            check.due("nearest(0, 4)", m.nearest(0, 4), ShiftMender.NONE);
            check.due("entry(0, 1, 14)", m.entry(0, 1, 14), ShiftMender.NONE);
            check.due("culprit(2, 0)", m.culprit(2, 0), ShiftMender.NONE);
            check.due("ledger(0, 0)", m.ledger(0, 0), ShiftMender.NONE);
            check.due("mend(2)", m.mend(2), ShiftMender.NONE);
        });
        s.test("FULL: as told", () -> {
            check.due("write(48)", fullText().write(48), ShiftMender.FULL);
            check.due("mend(0)", CulpritSentences.fullLedger().mend(0), ShiftMender.FULL);
        });
    }

    private void plusZero() {
        s.test("Values, entries, sizes and trends are returned plus ZERO (100000)", () -> {
            ShiftMender m = Laid.of("y4;s000000;s000000;l2110;p00;");
            check.due("set()", m.set(0, 0, 7), 100000);
            check.due("set() again", m.set(0, 0, 8), 100007);
            check.due("value()", m.value(0, 0), 100008);
            check.due("entry()", m.entry(1, 0, 0), 99992);
            check.due("rise()", m.rise(0), 99997);
            check.due("lose()", m.lose(0, 0), 100008);
            check.due("made()", m.made(0, 0), 100000);
            check.due("make()", m.make(0, 0), 100000);
            m.set(0, 2, -9);
            m.set(0, 3, -9);
            check.due("culprit()", m.culprit(0, 3), 99991);
            check.due("mend(): a number, not a size", m.mend(0), 1);
            check.due("ledger()", m.ledger(0, 2), 99991);
            check.due("cost(): no value", Laid.of("y4;s000000;s000000;").cost(0, 1), 0);
            check.due("ZERO", ShiftMender.ZERO, 100000);
        });
    }
}
