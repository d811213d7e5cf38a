import java.io.IOException;
import java.lang.reflect.InvocationTargetException;
import java.lang.reflect.Method;
import java.nio.file.Files;
import java.nio.file.Path;
import java.util.List;
import java.util.function.Supplier;

/** The class keeps to ../shared/LANGUAGE.md, rule by rule; rule 1 has its test in FaceTest too. */
public final class LanguageTest {
    private static final Check CHECK = new Check();

    // An object is used for so many calls; what later ones answer is free, but they may not throw either.
    private static final int MOST_CALLS = 512;

    private static final int[] EXTREMES = {
        Integer.MIN_VALUE, Integer.MIN_VALUE + 1, -100000, -1, 0, 1, 5, 15, 16, 17, 9999, 65536,
        Integer.MAX_VALUE - 1, Integer.MAX_VALUE,
    };

    // A part of a program and the rule that it breaks.
    private static final String[][] BROKEN = {
        {"1", "public class Seen { }"},
        {"2", "private final class Inner { }"},
        {"2", "private static final class A { private static final class B { } }"},
        {"2", "private static final Runnable R = () -> { };"},
        {"2", "private void m() { class Local { } }"},
        {"2", "private interface Way { int go(int a); } private int m(Way w) { return w.go(one(1)); }"
            + " private int n() { return m(ShiftMender::one); }"},
        {"2", "private static abstract class A { } private final A a = new A() { };"},
        {"3", "private double half = 1;"},
        {"3", "private final boolean[][] rows = new boolean[2][2];"},
        {"3", "private static final class Pair<T> { }"},
        {"3", "private Object any;"},
        {"4", "private long m() { return System.nanoTime(); }"},
        {"4", "private int m(int a) { return Math.addExact(a, 1); }"},
        {"4", "private final java.util.Random luck = new java.util.Random();"},
        {"4", "private int m() { return Integer.MAX_VALUE; }"},
        {"4", "private static final String SIGN = \"\u00e9\";"},
        {"5", "private static int count = 0;"},
        {"5", "private static final int[] ROW = {1, 2}; private void m() { ROW[0]++; }"},
        {"5", "private static final int[] ROW = {1, 2}; private void m() { ROW[0] = 3; }"},
        {"5", "private static final int[] ROW = new ShiftMender().row(); private int[] row() { return null; }"},
        {"5", "private static final int A; static { A = 1; }"},
        {"6", "private void m() { throw null; }"},
        {"6", "private void m() { try { one(1); } finally { one(2); } }"},
        {"6", "private void m() { synchronized (this) { one(1); } }"},
        {"6", "private void m(int a) { assert a > 0; }"},
        {"6", "private boolean m(String a, String b) { return a == b; }"},
        {"6", "private static final class A { public String toString() { return null; } }"},
        {"8", "private static int m(int a) { return a < 1 ? 0 : n(a - 1); }"
            + " private static int n(int a) { return m(a); }"},
        {"8", "private static int m(int a) { return a < 1 ? 0 : m(a - 1); }"},
        {"9", "private void m() { while (true) { one(1); } }"},
        {"9", "private void m() { for (;;) { one(1); } }"},
        {"9", "private void m(boolean b) { while (b) { one(1); } }"},
        {"10", "private String m(String a, int b) { return a + b; }"},
        {"11", "private int m(int a, int b, int c, int d, int e, int f, int g, int h) { return a; }"},
        {"11", "private int m() {" + "\n".repeat(60) + "return 1; }"},
        {"11", "private int a() { return b(); } private int b() { return c(); } private int c() { return d(); }"
            + " private int d() { return e(); } private int e() { return f(); } private int f() { return g(); }"
            + " private int g() { return h(); } private int h() { return one(1); }"},
        {"12", "private static final class A { } private void m() { A a = new A(); }"},
        {"12", "private int[] m() { return new int[2]; }"},
        {"12", "private static final class A { A(ShiftMender m) { } } private final A a = new A(this);"},
        {"12", "private static final class A { A(int[] row) { } } private final int[] row = new int[2];"
            + " private final A a = new A(row);"},
        {"12", "private final int[] row = new int[2]; private static int m(int[] row) { return row.length; }"
            + " public ShiftMender() { m(row); }"},
    };

    public static void main(String[] args) throws IOException, ReflectiveOperationException {
        for (String fault : LanguageRules.faults(Files.readString(Path.of("src/main/java/ShiftMender.java")))) {
            CHECK.holds("rule " + fault, false);
        }
        CHECK.holds("a program within the rules is let through", LanguageRules.faults(program("")).isEmpty());
        for (String[] broken : BROKEN) {
            CHECK.holds("rule " + broken[0] + " is broken by: " + broken[1], isFound(broken[0], broken[1]));
        }
        CHECK.holds("rule 11: too many classes are found", isFound("11", many("private static final class", "{ }", 12)));
        CHECK.holds("rule 11: too many fields are found", isFound("11", many("private int", ";", 21)));
        for (Supplier<ShiftMender> object : Refused.objects()) {
            for (Method method : ShiftMender.class.getDeclaredMethods()) {
                if (java.lang.reflect.Modifier.isPublic(method.getModifiers())) {
                    nothingThrows(method, object);
                }
            }
        }
        nothingThrowsLater();
        CHECK.end();
    }

    private static String program(String part) {
        return "public final class ShiftMender { private static int one(int a) { return a; }\n" + part + "\n}";
    }

    private static boolean isFound(String rule, String part) throws IOException {
        List<String> faults = LanguageRules.faults(program(part));
        return faults.stream().anyMatch(fault -> fault.startsWith(rule + ","));
    }

    private static String many(String begin, String end, int number) {
        StringBuilder part = new StringBuilder();
        for (int i = 0; i < number; i++) {
            part.append(begin).append(" n").append(i).append(end).append(' ');
        }
        return part.toString();
    }

    /** Rule 7: each call with each set of extreme numbers. */
    private static void nothingThrows(Method method, Supplier<ShiftMender> object)
            throws ReflectiveOperationException {
        int places = method.getParameterCount();
        int sets = 1;
        for (int i = 0; i < places; i++) {
            sets *= EXTREMES.length;
        }
        ShiftMender m = object.get();
        for (int set = 0; set < sets; set++) {
            if (set % MOST_CALLS == MOST_CALLS - 1) {
                m = object.get();
            }
            Object[] numbers = new Object[places];
            int rest = set;
            for (int i = 0; i < places; i++) {
                numbers[i] = EXTREMES[rest % EXTREMES.length];
                rest /= EXTREMES.length;
            }
            ask(method, m, numbers);
        }
    }

    private static void ask(Method method, ShiftMender m, Object[] numbers) throws IllegalAccessException {
        try {
            method.invoke(m, numbers);
        } catch (InvocationTargetException e) {
            CHECK.holds(method.getName() + java.util.Arrays.toString(numbers) + " threw " + e.getCause(), false);
        }
    }

    /** Rule 7 again: one object far beyond the calls for which its answers are promised. */
    private static void nothingThrowsLater() {
        ShiftMender m = new ShiftMender();
        long answers = 0;
        for (int i = 0; i < 20000; i++) {
            answers += m.write(32 + i % 95) + m.day(i % 10000, 1 + i % 20) + m.mends() + m.fault();
            answers += m.culprit(i % 4 - 1, i % 4) + m.make(i % 5, i % 14) + m.undo();
        }
        CHECK.holds("calls beyond the 512th end", answers != 0);
    }
}
