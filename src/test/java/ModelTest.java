import java.lang.reflect.Method;

/** Long runs of calls on the class and on the oracle: each answer has to be the same. */
public final class ModelTest {
    private static final Check CHECK = new Check();

    // How many numbers each call takes; a call that stands more than once comes more often.
    private static final String[] CALLS = {
        "write 1", "wipe 0", "fault 0", "value 2", "value 2", "set 3", "set 3", "set 3", "lose 2", "lose 2",
        "penalty 1", "rule 2", "rule 2", "undo 0", "undo 0", "undo 0", "day 2", "day 2", "nearest 2", "pair 2",
        "entry 3", "year 3", "spread 4", "split 3", "split 3", "cost 2", "spreads 3", "breaks 3", "least 3",
        "votes 2", "votes 2", "culprit 2", "culprit 2", "culprit 2", "mend 1", "mend 1", "mends 0", "ledger 2",
        "ledger 2", "made 2", "made 2", "make 2", "make 2", "rise 1", "count 1",
    };

    // An object is used for so many calls; what later ones answer is free.
    private static final int MOST_CALLS = 512;

    private static long seed = 1;
    private static int used = 0;

    public static void main(String[] args) throws ReflectiveOperationException {
        for (int run = 0; run < 400 && CHECK.wrong() == 0; run++) {
            randomRun(run);
        }
        CHECK.end();
    }

    private static int below(int bound) {
        seed = seed * 6364136223846793005L + 1442695040888963407L;
        return (int) ((seed >>> 33) % bound);
    }

    private static void randomRun(int run) throws ReflectiveOperationException {
        ShiftMender mender = new ShiftMender();
        Oracle oracle = new Oracle();
        StringBuilder log = new StringBuilder("run " + run + ":");
        used = 0;
        int style = below(4);
        if (style != 0) {
            layRandomText(mender, oracle, log);
        }
        int calls = 20 + below(60);
        for (int i = 0; i < calls && CHECK.wrong() == 0; i++) {
            if (below(60) == 0) {
                layRandomText(mender, oracle, log);
            }
            String[] call = CALLS[below(CALLS.length)].split(" ");
            ask(mender, oracle, log, call[0], arguments(call[0], Integer.parseInt(call[1]), oracle));
        }
        askAll(mender, oracle, log);
    }

    private static void ask(ShiftMender mender, Oracle oracle, StringBuilder log, String name, int... a)
            throws ReflectiveOperationException {
        if (used == MOST_CALLS) {
            return;
        }
        used++;
        log.append(' ').append(name).append(java.util.Arrays.toString(a));
        Class<?>[] types = new Class<?>[a.length];
        Object[] values = new Object[a.length];
        for (int i = 0; i < a.length; i++) {
            types[i] = int.class;
            values[i] = a[i];
        }
        Method method = ShiftMender.class.getMethod(name, types);
        long got = ((Number) method.invoke(mender, values)).longValue();
        long want = oracle.answer(name, a);
        if (CHECK.wrong() == 0) {
            CHECK.due(got == want ? name : log.toString(), got, want);
        }
    }

    /** Looks at the whole state. */
    private static void askAll(ShiftMender mender, Oracle oracle, StringBuilder log)
            throws ReflectiveOperationException {
        for (int what = 0; what <= 10; what++) {
            ask(mender, oracle, log, "count", what);
        }
        int stations = (int) oracle.answer("count", new int[] {0});
        int years = (int) oracle.answer("count", new int[] {1});
        for (int c = 0; c < stations; c++) {
            ask(mender, oracle, log, "rise", c);
            for (int t = 0; t < years; t++) {
                ask(mender, oracle, log, "value", c, t);
                ask(mender, oracle, log, "votes", c, t);
            }
        }
        for (int what = 0; what <= 3; what++) {
            for (int i = -1; i < 6; i++) {
                ask(mender, oracle, log, "culprit", i, what);
                ask(mender, oracle, log, "ledger", i, what);
            }
        }
    }

    private static void layRandomText(ShiftMender mender, Oracle oracle, StringBuilder log)
            throws ReflectiveOperationException {
        ask(mender, oracle, log, "wipe");
        String text = randomText();
        for (int i = 0; i < text.length(); i++) {
            ask(mender, oracle, log, "write", text.charAt(i));
        }
        ask(mender, oracle, log, "fault");
        ask(mender, oracle, log, "lay");
    }

    private static String randomText() {
        int years = below(3) == 0 ? 4 + below(13) : 4 + below(7);
        StringBuilder text = new StringBuilder("y").append(sign(years)).append(';');
        int stations = 2 + below(5);
        int places = 1 + below(29);
        for (int c = 0; c < stations; c++) {
            text.append('s').append(sign(below(places))).append(sign(below(places)));
            int gaps = below(3) == 0 ? 3 : 12;
            int level = below(12);
            for (int t = 0; t < years; t++) {
                level = below(5) == 0 ? below(20) : level;
                text.append(below(gaps) == 0 ? '.' : sign(level + below(3)));
            }
            text.append(';');
            if (below(3) == 0) {
                text.append('p').append(below(3)).append(below(10)).append(';');
            }
            if (below(3) == 0) {
                text.append('l').append(1 + below(4)).append(1 + below(5)).append(1 + below(3)).append(below(3));
                text.append(';');
            }
        }
        int faults = below(4) == 0 ? 1 + below(2) : 0;
        for (int i = 0; i < faults && text.length() > 0; i++) {
            spoil(text);
        }
        return text.toString();
    }

    private static char sign(int number) {
        return (char) (number < 10 ? '0' + number : 'a' + number - 10);
    }

    private static void spoil(StringBuilder text) {
        int at = below(text.length());
        String signs = "yspl;.09agst:/`z A~";
        char sign = signs.charAt(below(signs.length()));
        switch (below(4)) {
            case 0:
                text.deleteCharAt(at);
                break;
            case 1:
                text.insert(at, sign);
                break;
            case 2:
                text.setCharAt(at, sign);
                break;
            default:
                text.setLength(at);
                break;
        }
    }

    private static int[] arguments(String call, int number, Oracle oracle) {
        int[] a = new int[number];
        for (int i = 0; i < number; i++) {
            a[i] = below(25) == 0 ? odd() : usual(call, i, oracle);
        }
        return a;
    }

    private static int odd() {
        int[] numbers = {-1, -2, 6, 16, 28, 99999, 100000, 9999, 10000, -9999, -10000, 1000000,
            Integer.MAX_VALUE, Integer.MIN_VALUE};
        return numbers[below(numbers.length)];
    }

    /** A number that often makes sense at this place of the call. */
    private static int usual(String call, int i, Oracle oracle) {
        int stations = (int) oracle.answer("count", new int[] {0});
        int years = (int) oracle.answer("count", new int[] {1});
        switch (call) {
            case "write":
                return 30 + below(98);
            case "penalty":
                return below(3) == 0 ? below(100000) : below(30);
            case "rule":
                return below(i == 0 ? 4 : 6);
            case "day":
                return i == 0 ? below(10000) : 1 + below(3) * below(7);
            case "count":
                return below(12) - 1;
            case "culprit":
            case "ledger":
                return i == 0 ? below(6) - 1 : below(4);
            case "mend":
                return below(3);
            case "entry":
            case "split":
                return i < 2 ? below(stations) : below(years) / (call.equals("split") ? 3 : 1) - 1;
            case "spread":
            case "year":
            case "spreads":
            case "least":
                return i < 2 ? below(stations) : below(years);
            case "breaks":
                return i < 2 ? below(stations) : below(40);
            case "nearest":
            case "pair":
            case "cost":
            case "rise":
                return below(stations);
            default:
                return i == 0 ? below(stations) : i == 1 ? below(years) : setValue();
        }
    }

    private static int setValue() {
        int extreme = below(8);
        return extreme == 0 ? 9999 - below(5) : extreme == 1 ? below(5) - 9999 : below(40) - 10;
    }
}
