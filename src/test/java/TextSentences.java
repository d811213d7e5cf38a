import java.util.List;
import java.util.Map;
import java.util.TreeMap;

/** The sentences about the stations and their text: STATIONS AND VALUES, promises 1 to 5. */
final class TextSentences {
    private static final String SIGNS = "0123456789abcdefghijklmnopqrs";
    private static final String FIRST = "ye;s00567567cbcdbcdc;s02678678767b9aba;s30456.565456.565;s3378978987897898;"
        + "sss22233322233322;p12;l2321;";

    private final Sentences s;
    private final Check check;
    private final Refused refused;

    TextSentences(Sentences s, Check check) {
        this.s = s;
        this.check = check;
        this.refused = new Refused(check);
    }

    void all() {
        years();
        stations();
        parameters();
        text();
        items();
        faults();
        newObject();
        write();
        wipe();
        fault();
        lay();
    }

    /** A text of stations without values, all at the place 00. */
    static String empty(int years, int stations) {
        return "y" + SIGNS.charAt(years) + ";" + ("s00" + ".".repeat(years) + ";").repeat(stations);
    }

    static ShiftMender written(String text) {
        ShiftMender m = new ShiftMender();
        Laid.write(m, text);
        return m;
    }

    private void faultIs(String text, int due) {
        ShiftMender m = written(text);
        check.due("fault() of " + text, m.fault(), due);
        if (due >= 0) {
            check.due("lay() of " + text, m.lay(), -2);
        }
    }

    private void laysAs(String text, int due) {
        check.due("lay() of " + text, written(text).lay(), due);
    }

    // ---- STATIONS AND VALUES

    private void years() {
        s.under("STATIONS AND VALUES");
        s.test("There are M years, 0 to M - 1", () -> {
            for (int years = 4; years <= 16; years++) {
                ShiftMender m = Laid.of(empty(years, 2));
                check.due("M = " + years + ": year -1", m.value(0, -1), -1);
                check.due("M = " + years + ": year 0", m.value(0, 0), -4);
                check.due("M = " + years + ": the last year", m.value(0, years - 1), -4);
                check.due("M = " + years + ": year M", m.value(0, years), -1);
            }
        });
        s.test("where M is 4 to 16", () -> {
            for (int years = 0; years <= 28; years++) {
                ShiftMender m = written(empty(years, 2));
                boolean fine = years >= 4 && years <= 16;
                check.due("fault() with M = " + years, m.fault(), fine ? -4 : 0);
                check.due("lay() with M = " + years, m.lay(), fine ? 2 : -2);
                check.due("count(1) with M = " + years, m.count(1), fine ? years : 14);
            }
        });
        s.test("in each year a value from -9999 to 9999", () -> {
            ShiftMender m = new ShiftMender();
            for (int t = 0; t < 14; t++) {
                m.set(0, t, -9999);
                m.set(1, t, 9999);
                check.due("the least value", m.value(0, t), 90001);
                check.due("the greatest value", m.value(1, t), 109999);
            }
            check.due("one less", m.set(0, 0, -10000), -1);
            check.due("one more", m.set(1, 0, 10000), -1);
        });
        s.test("or none (the value is missing)", () -> {
            ShiftMender m = Laid.of("y4;s00.0.0;s00....;");
            int[] due = {-4, 100000, -4, 100000};
            for (int t = 0; t < 4; t++) {
                check.due("0 and none, year " + t, m.value(0, t), due[t]);
                check.due("none at all, year " + t, m.value(1, t), -4);
            }
            check.due("none at all: missing values", m.count(8), 6);
        });
    }

    private void stations() {
        s.test("and 2 to 6 stations", () -> {
            for (int n = 0; n <= 7; n++) {
                laysAs(empty(4, n), n < 2 || n > 6 ? -2 : n);
            }
            laysAs(empty(16, 6), 6);
            laysAs(empty(16, 7), -2);
        });
        s.test("numbered from 0", () -> {
            for (int n = 2; n <= 6; n++) {
                ShiftMender m = Laid.of(empty(4, n));
                check.due(n + " stations: station -1", m.rise(-1), -1);
                check.due(n + " stations: station 0", m.rise(0), 100000);
                check.due(n + " stations: the last one", m.rise(n - 1), 100000);
                check.due(n + " stations: one behind it", m.rise(n), -1);
            }
        });
        s.test("coordinates X and Y (0 to 28 each", () -> {
            faultIs("y4;s00....;", -4);
            faultIs("y4;ss0....;", -4);
            faultIs("y4;s0s....;", -4);
            faultIs("y4;sss....;", -4);
            faultIs("y4;st0....;", 3);
            faultIs("y4;s0t....;", 3);
            // from the corner of 0 it is 784 to 3 (by Y alone), 784 to 4 (by X alone), 1568 to 1 and 2
            ShiftMender m = Laid.of("y4;s00....;sss....;sss....;s0s....;ss0....;");
            int[] due = {3, 4, 1, 2};
            for (int k = 0; k < 4; k++) {
                check.due("nearest(0, " + k + ") of the corners", m.nearest(0, k), due[k]);
            }
            // 27 and 28 are two places
            ShiftMender next = Laid.of("y4;ss0....;s00....;sr0....;ss0....;");
            check.due("nearest(0, 0) beside 27", next.nearest(0, 0), 3);
            check.due("nearest(0, 1) beside 27", next.nearest(0, 1), 2);
        });
        s.test("several stations may be at the same place", () -> {
            for (String place : List.of("00", "ss", "7k")) {
                ShiftMender m = written("y4;" + ("s" + place + "0123;").repeat(6));
                check.due("lay() of six at " + place, m.lay(), 6);
                check.due("nearest(5, 4) at " + place, m.nearest(5, 4), 4);
            }
        });
    }

    private void parameters() {
        s.test("the penalty (0 to 99999;", () -> {
            ShiftMender m = new ShiftMender();
            check.due("penalty(-1)", m.penalty(-1), -1);
            check.due("penalty(0)", m.penalty(0), 12);
            check.due("penalty(99999)", m.penalty(99999), 0);
            check.due("penalty(100000)", m.penalty(100000), -1);
            check.due("count(2)", m.count(2), 99999);
        });
        s.test("20 without other information)", () -> {
            check.due("penalty without p", Laid.of(empty(4, 2)).count(2), 20);
            check.due("penalty with l alone", Laid.of(empty(4, 2) + "l4552;").count(2), 20);
            check.due("penalty with p", Laid.of(empty(4, 2) + "p21;").count(2), 21);
        });
        parameter("the least run length R (1 to 4;", 0, 1, 4);
        usual("R (1 to 4; 2)", 0, 2);
        parameter("the number of neighbours N (1 to 5;", 1, 1, 5);
        usual("N (1 to 5; 3)", 1, 3);
        parameter("the votes wanted T (1 to 5;", 2, 1, 5);
        usual("T (1 to 5; 2)", 2, 2);
        parameter("the window W (0 to 2;", 3, 0, 2);
        usual("W (0 to 2; 0)", 3, 0);
    }

    private void parameter(String words, int what, int least, int greatest) {
        s.test(words, () -> {
            ShiftMender m = new ShiftMender();
            for (int number = least - 2; number <= greatest + 2; number++) {
                boolean fine = number >= least && number <= greatest;
                int before = m.count(3 + what);
                int due = !fine ? -1 : number == before ? -2 : before;
                check.due("rule(" + what + ", " + number + ")", m.rule(what, number), due);
                check.due("count(" + (3 + what) + ")", m.count(3 + what), fine ? number : before);
                char[] digits = "2321".toCharArray();
                digits[what] = (char) ('0' + number);
                if (number >= 0) {
                    faultIs("y4;l" + new String(digits) + ";", fine ? -4 : 3);
                }
            }
        });
    }

    private void usual(String words, int what, int number) {
        s.test(words, () -> {
            check.due("parameter " + what + " without l", Laid.of(empty(4, 2)).count(3 + what), number);
            check.due("parameter " + what + " with p alone", Laid.of(empty(4, 2) + "p00;").count(3 + what), number);
            check.due("after another text", relaid().count(3 + what), number);
        });
    }

    /** Laid without parameters, after all of them had been others. */
    private static ShiftMender relaid() {
        ShiftMender m = Laid.of(empty(4, 2) + "l4552;p77;");
        m.wipe();
        Laid.write(m, empty(4, 2));
        m.lay();
        return m;
    }

    private void text() {
        s.test("Stations are written as a text of at most 200 characters", () -> {
            ShiftMender m = written(empty(16, 6) + "p10;".repeat(19));
            check.due("199 characters", m.count(10), 199);
            check.due("the 200th one", m.write(';'), 200);
            check.due("the 201st one", m.write(';'), -3);
            check.due("count(10)", m.count(10), 200);
            check.due("fault(): the 200th one is read", m.fault(), 199);
        });
        s.test("which is empty at first", () -> {
            check.due("count(10)", new ShiftMender().count(10), 0);
            check.due("fault()", new ShiftMender().fault(), -4);
            check.due("wipe()", new ShiftMender().wipe(), 0);
        });
        s.test("The signs 0 to 9 and a to s stand for the numbers 0 to 9 and 10 to 28", () -> {
            for (int number = 0; number <= 28; number++) {
                char sign = SIGNS.charAt(number);
                ShiftMender m = Laid.of("y4;s00..." + sign + ";s00....;");
                check.due("the sign " + sign, m.value(0, 3), 100000 + number);
            }
            for (char sign = 32; sign <= 126; sign++) {
                boolean isSign = SIGNS.indexOf(sign) >= 0;
                faultIs("y4;s00..." + sign + ";", isSign || sign == '.' ? -4 : 3);
                faultIs("y4;s0" + sign + "....;", isSign ? -4 : 3);
            }
        });
    }

    private void items() {
        s.test("The text is a sequence of items without separators:", () -> {
            faultIs("y4;s00....;s00....;p12;l2321;", -4);
            for (char sign = 32; sign <= 126; sign++) {
                faultIs(sign + "y4;p12;", 0);
                faultIs("y4;" + sign + "p12;", 3);
                faultIs("y4;p12;" + sign, 7);
            }
        });
        s.test("the number of years, a sign for 4 to 16", () -> {
            for (char sign = 32; sign <= 126; sign++) {
                faultIs("y" + sign + ";", "456789abcdefg".indexOf(sign) >= 0 ? -4 : 0);
            }
            faultIs("y04;", 0);
            faultIs("y16;", 0);
            faultIs("y;", 0);
        });
        s.test("it must be the first item", () -> {
            for (String item : List.of("p12;", "l2321;", "s000000;", "s00;", ";", "x")) {
                faultIs(item, 0);
                faultIs(item + "y4;", 0);
                faultIs(item + "y4;s000000;s000000;", 0);
            }
        });
        s.test("and the only one of this kind", () -> {
            faultIs("y4;y4;", 3);
            faultIs("y4;y5;", 3);
            faultIs("y4;p12;y4;", 7);
            faultIs("y4;s000000;s000000;y4;s000000;", 19);
        });
        s.test("\"s\" X Y V ... V \";\" adds a station", () -> {
            ShiftMender m = Laid.of("y4;s000123;s89fghi;sij..rs;");
            check.due("stations", m.count(0), 3);
            int[][] due = {{0, 1, 2, 3}, {15, 16, 17, 18}, {-100004, -100004, 27, 28}};
            for (int c = 0; c < 3; c++) {
                for (int t = 0; t < 4; t++) {
                    check.due("value(" + c + ", " + t + ")", m.value(c, t), 100000 + due[c][t]);
                }
            }
        });
        s.test("for each year a sign for its value", () -> {
            for (int years = 4; years <= 16; years++) {
                String year = "y" + SIGNS.charAt(years) + ";";
                for (int values = 0; values <= 17; values++) {
                    faultIs(year + "s00" + "0".repeat(values) + ";", values == years ? -4 : 3);
                }
            }
        });
        s.test("or . if it is missing", () -> {
            faultIs("y4;s00....;", -4);
            for (int i = 4; i <= 10; i++) {
                String text = "y4;s000000;".substring(0, i) + "." + "y4;s000000;".substring(i + 1);
                faultIs(text, i >= 6 && i <= 9 ? -4 : 3);
            }
        });
        s.test("at most 6 stations", () -> {
            for (int years : new int[] {4, 16}) {
                faultIs(empty(years, 6), -4);
                faultIs(empty(years, 7), 3 + 6 * (years + 4));
                faultIs(empty(years, 6) + "p12;s", 3 + 6 * (years + 4) + 4);
            }
        });
        s.test("two digits; the last one counts", () -> {
            for (int p = 0; p <= 99; p++) {
                ShiftMender m = Laid.of(empty(4, 2) + "p55;p" + p / 10 + p % 10 + ";");
                check.due("the penalty of the text", m.count(2), p);
            }
            for (String item : List.of("p;", "p1;", "p123;", "pa0;", "p0a;", "p.0;", "p-1;")) {
                faultIs("y4;" + item, 3);
            }
            check.due("the last one of three", Laid.of("y4;p99;s00....;p00;s00....;p10;").count(2), 10);
        });
        s.test("one digit each, as above; the last one counts", () -> {
            for (int i = 0; i < 4 * 5 * 5 * 3; i++) {
                int[] rules = {1 + i % 4, 1 + i / 4 % 5, 1 + i / 20 % 5, i / 100};
                String item = "l" + rules[0] + rules[1] + rules[2] + rules[3] + ";";
                ShiftMender m = Laid.of(empty(4, 2) + "l2321;" + item);
                for (int what = 0; what < 4; what++) {
                    check.due("parameter " + what + " of " + item, m.count(3 + what), rules[what]);
                }
            }
            for (String item : List.of("l;", "l2;", "l23;", "l232;", "l23210;", "l02321;", "l2 21;")) {
                faultIs("y4;" + item, 3);
            }
        });
    }

    // ---- faults

    /** Where the items of a text begin. */
    private static int[] beginnings(String text) {
        return java.util.stream.IntStream.range(0, text.length())
            .filter(i -> i == 0 || text.charAt(i - 1) == ';').toArray();
    }

    private void faults() {
        s.test("the index of the first character of the first item that is not as described", () -> {
            String text = "y6;s00012.sa;p12;l2321;sk9......;p00;";
            Map<Integer, String> fine = signsThatFit(text);
            for (int i = 0; i < text.length(); i++) {
                int beginning = beginningOf(text, i);
                for (char sign = 32; sign <= 126; sign++) {
                    String changed = text.substring(0, i) + sign + text.substring(i + 1);
                    // another number of years is as described, but then the first station is not
                    int due = i == 1 && sign != '6' && "456789abcdefg".indexOf(sign) >= 0 ? 3
                        : fine.get(i).indexOf(sign) >= 0 ? -4 : beginning;
                    check.due("fault() of " + changed, written(changed).fault(), due);
                }
            }
            faultIs("y4;x;s00;p1;", 3);
            faultIs("y4;s00....;p1;x;", 11);
        });
        s.test("also if it is incomplete", () -> {
            String text = "y5;s0s01.s9;p07;l4512;sa000000;p10;";
            for (int length = 0; length <= text.length(); length++) {
                boolean complete = length == 0 || text.charAt(length - 1) == ';';
                faultIs(text.substring(0, length), complete ? -4 : beginningOf(text, length - 1));
            }
            // in a full text the last item can't be completed any more
            String full = empty(4, 6) + "p10;".repeat(36);
            faultIs(full + "l2321", 195);
            faultIs(full + "p10;s", 199);
            faultIs(full + "p10;y", 199);
            faultIs(full + "p10;p", 199);
            faultIs(full + "p10;l", 199);
        });
        s.test("or one too many", () -> {
            faultIs(empty(4, 6) + "s00....;", 51);
            faultIs(empty(4, 6) + "l2321;p12;s00....;", 61);
            faultIs("y4;p12;y4;", 7);
            faultIs("y4;p12;p12;p12;l2321;l2321;l2321;", -4);
        });
        s.test("there is none if there is no such item, also if the text is empty", () -> {
            faultIs("y4;", -4);
            faultIs("y4;l1110;", -4);
            faultIs(empty(15, 5) + "p10;".repeat(24) + "l2321;", -4);
            faultIs("", -4);
            ShiftMender m = written("x");
            m.wipe();
            check.due("fault() of a text wiped", m.fault(), -4);
        });
        s.test("The text can be laid if it has no fault and at least two stations", () -> {
            laysAs("", -2);
            laysAs("y4;", -2);
            laysAs("y4;p12;l2321;", -2);
            laysAs(empty(4, 1), -2);
            laysAs(empty(4, 2), 2);
            laysAs(empty(4, 2) + "x", -2);
            laysAs(empty(4, 2) + "p1", -2);
            laysAs(empty(4, 1) + "s00....", -2);
        });
        s.test("At first the stations are those of ye;s00567567cbcdbcdc;", () -> {
            ShiftMender m = Laid.of(FIRST);
            m.wipe();
            check.holds("a new object is as one with its text", Whole.of(m).equals(Whole.of(new ShiftMender())));
            check.due("value(0, 0)", m.value(0, 0), 100005);
            check.due("value(4, 13)", m.value(4, 13), 100002);
        });
        s.test("which is not the text", () -> {
            check.due("count(10)", new ShiftMender().count(10), 0);
            check.due("lay()", new ShiftMender().lay(), -2);
        });
    }

    private static int beginningOf(String text, int i) {
        int beginning = 0;
        for (int b : beginnings(text)) {
            beginning = b <= i ? b : beginning;
        }
        return beginning;
    }

    /** For each place the signs that may stand there without a fault, all else being as it is. */
    private static Map<Integer, String> signsThatFit(String text) {
        Map<Integer, String> fine = new TreeMap<>();
        for (int i = 0; i < text.length(); i++) {
            int place = i - beginningOf(text, i);
            char kind = text.charAt(beginningOf(text, i));
            String fits = String.valueOf(text.charAt(i));
            if (place > 0 && text.charAt(i) != ';') {
                switch (kind) {
                    case 's':
                        fits = place < 3 ? SIGNS : SIGNS + ".";
                        break;
                    case 'p':
                        fits = "0123456789";
                        break;
                    case 'l':
                        fits = List.of("", "1234", "12345", "12345", "012").get(place);
                        break;
                    default:
                        break;
                }
            }
            fine.put(i, fits);
        }
        return fine;
    }

    // ---- promises 1 to 5

    private void newObject() {
        s.under("Promise 1");
        s.test("Creates the stations described", () -> {
            ShiftMender m = new ShiftMender();
            int[] counts = {5, 14, 12, 2, 3, 2, 1, 9, 2, 0, 0};
            for (int what = 0; what < counts.length; what++) {
                check.due("count(" + what + ")", m.count(what), counts[what]);
            }
            String[] rows = {"567567cbcdbcdc", "678678767b9aba", "456.565456.565", "78978987897898",
                "22233322233322"};
            for (int c = 0; c < 5; c++) {
                for (int t = 0; t < 14; t++) {
                    int number = SIGNS.indexOf(rows[c].charAt(t));
                    check.due("value(" + c + ", " + t + ")", m.value(c, t), number < 0 ? -4 : 100000 + number);
                }
            }
        });
        s.test("with an empty text", () -> {
            ShiftMender m = new ShiftMender();
            check.due("count(10)", m.count(10), 0);
            check.due("write(121)", m.write(121), 1);
        });
        s.test("and ledger", () -> {
            ShiftMender m = new ShiftMender();
            check.due("ledger(-1, 0)", m.ledger(-1, 0), 0);
            check.due("ledger(0, 0)", m.ledger(0, 0), -4);
            check.due("undo()", m.undo(), -2);
        });
    }

    private void write() {
        s.under("Promise 2");
        s.test("Appends a character to the text", () -> {
            ShiftMender m = new ShiftMender();
            int[] faults = {0, 0, -4, 3, 3, 3, -4, 7};
            for (int i = 0; i < faults.length; i++) {
                m.write("y4;p12;x".charAt(i));
                check.due("fault() after " + (i + 1), m.fault(), faults[i]);
            }
        });
        s.test("its code, 32 to 126", () -> {
            int[][] due = {{31, -1}, {32, 1}, {33, 2}, {125, 3}, {126, 4}, {127, -1}};
            ShiftMender m = new ShiftMender();
            for (int[] d : due) {
                check.due("write(" + d[0] + ")", m.write(d[0]), d[1]);
            }
        });
        s.test("Returns the number of characters then", () -> {
            ShiftMender m = new ShiftMender();
            for (int i = 1; i <= 200; i++) {
                check.due("write(126)", m.write(126), i);
                check.due("count(10)", m.count(10), i);
            }
        });
        s.test("BAD if letter is out of range", () -> {
            for (int letter : new int[] {31, 127, 0, -1, 128, 256 + 48, 65536 + 48, Integer.MIN_VALUE,
                Integer.MAX_VALUE}) {
                refused.due("write(" + letter + ")", -1, m -> m.write(letter), Refused.objects());
                refused.due("write(" + letter + ") when full", -1, m -> m.write(letter), () -> full(200));
            }
        });
        s.test("FULL if there are 200 characters", () -> {
            for (int letter : new int[] {32, ';', 'y', 126}) {
                check.due("the 199th", full(198).write(letter), 199);
                check.due("the 200th", full(199).write(letter), 200);
                refused.due("write(" + letter + ") when full", -3, m -> m.write(letter), () -> full(200));
            }
        });
    }

    /** With a text so long; one of 199 signs can be laid, and one of 200 has its last sign as its fault. */
    private static ShiftMender full(int length) {
        return written((empty(4, 6) + "p10;".repeat(37) + "x").substring(0, length));
    }

    private void wipe() {
        s.under("Promise 3");
        s.test("Empties the text", () -> {
            ShiftMender m = full(200);
            m.wipe();
            check.due("count(10)", m.count(10), 0);
            check.due("fault()", m.fault(), -4);
            check.due("lay()", m.lay(), -2);
            Laid.write(m, "y");
            check.due("of the old text nothing is read", m.fault(), 0);
        });
        s.test("Returns how many characters it had", () -> {
            ShiftMender m = new ShiftMender();
            check.due("of none", m.wipe(), 0);
            for (int length : new int[] {1, 2, 199, 200}) {
                m = full(length);
                check.due("of " + length, m.wipe(), length);
                check.due("once more", m.wipe(), 0);
            }
            refused.due("wipe() of no text", 0, ShiftMender::wipe, () -> {
                ShiftMender x = Refused.busy();
                x.wipe();
                return x;
            });
        });
    }

    private void fault() {
        s.under("Promise 4");
        s.test("Returns the fault of the text", () -> {
            refused.due("fault() of no text", -4, ShiftMender::fault, ShiftMender::new);
            refused.due("fault() of a text", -4, ShiftMender::fault, Refused::busy);
            refused.due("fault() of a text with a fault", 3, ShiftMender::fault, Refused::greatest);
        });
        s.test("Returns the fault;", () -> {
            faultIs("x", 0);
            faultIs("y4;" + "p12;".repeat(49) + "x", 199);
        });
        s.test("NONE if there is none", () -> {
            faultIs("", -4);
            faultIs("y4;" + "p12;".repeat(49), -4);
        });
    }

    private void lay() {
        s.under("Promise 5");
        s.test("Replaces the stations, values and parameters by those of the text", () -> {
            ShiftMender m = Refused.busy();
            m.wipe();
            Laid.write(m, "y4;s000000;s991111;sss2.22;p77;l4552;");
            m.lay();
            int[] counts = {3, 4, 77, 4, 5, 5, 2, 3, 1, 0, 37};
            for (int what = 0; what < counts.length; what++) {
                check.due("count(" + what + ")", m.count(what), counts[what]);
            }
            check.due("nearest(2, 0)", m.nearest(2, 0), 1);
            check.due("value(2, 3)", m.value(2, 3), 100002);
            check.due("no station 3", m.value(3, 0), -1);
            check.due("no year 4", m.value(0, 4), -1);
        });
        s.test("The ledger is empty then", () -> {
            ShiftMender m = CulpritSentences.fullLedger();
            check.due("ledger(-1, 0) before", m.ledger(-1, 0), 10);
            m.lay();
            check.due("ledger(-1, 0)", m.ledger(-1, 0), 0);
            check.due("ledger(0, 0)", m.ledger(0, 0), -4);
        });
        s.test("and nothing can be undone", () -> {
            ShiftMender m = Refused.busy();
            check.due("count(9) before", m.count(9), 8);
            m.lay();
            check.due("count(9)", m.count(9), 0);
            check.due("undo()", m.undo(), -2);
            check.due("value(0, 0)", m.value(0, 0), 100000);
        });
        s.test("The text stays", () -> {
            ShiftMender m = written("y4;s001234;s000000;");
            check.due("lay()", m.lay(), 2);
            check.due("count(10)", m.count(10), 19);
            check.due("fault()", m.fault(), -4);
            m.set(0, 0, 7);
            check.due("lay() again", m.lay(), 2);
            check.due("value(0, 0)", m.value(0, 0), 100001);
            check.due("write(120)", m.write(120), 20);
            check.due("fault() then", m.fault(), 19);
        });
        s.test("Returns the number of stations", () -> {
            for (int n = 2; n <= 6; n++) {
                laysAs(empty(4, n), n);
                laysAs(empty(16, n), n);
            }
        });
        s.test("NO if the text cannot be laid (nothing changes)", () -> {
            for (String text : List.of("", "y4;", empty(4, 1), empty(4, 2) + "x", empty(4, 7), "s00....;s00....;",
                empty(16, 1), "y3;s00...;s00...;")) {
                refused.due("lay() of " + text, -2, ShiftMender::lay, () -> {
                    ShiftMender m = Refused.busy();
                    m.wipe();
                    Laid.write(m, text);
                    return m;
                });
            }
        });
    }
}
