import java.math.BigInteger;
import java.util.ArrayDeque;
import java.util.ArrayList;
import java.util.Collections;
import java.util.Deque;
import java.util.HashMap;
import java.util.List;
import java.util.Map;
import java.util.regex.Matcher;
import java.util.regex.Pattern;

/**
 * The document once more, in another way: every segmentation is looked at, sums are exact fractions, and a change
 * keeps a copy of the whole state. Only for tests: it is slow, and made to be compared with the class.
 */
final class Oracle {
    static final int BAD = -1, NO = -2, FULL = -3, NONE = -4, ZERO = 100000;
    private static final long SCALE = 720720;
    private static final int[][] RANGES = {{1, 4}, {1, 5}, {1, 5}, {0, 2}};

    /** Stations, values (null: missing), parameters and ledger. */
    private static final class State {
        int years;
        List<int[]> places = new ArrayList<>();
        List<Integer[]> values = new ArrayList<>();
        int penalty = 20;
        int[] rules = {2, 3, 2, 0};
        List<int[]> ledger = new ArrayList<>();

        State copy() {
            State s = new State();
            s.years = years;
            s.places.addAll(places);
            for (Integer[] row : values) {
                s.values.add(row.clone());
            }
            s.penalty = penalty;
            s.rules = rules.clone();
            s.ledger.addAll(ledger);
            return s;
        }
    }

    /** A fraction of whole numbers, the lower one positive. */
    private record Fraction(BigInteger upper, BigInteger lower) {
        static Fraction of(long number) {
            return new Fraction(BigInteger.valueOf(number), BigInteger.ONE);
        }

        Fraction plus(Fraction f) {
            return new Fraction(upper.multiply(f.lower).add(f.upper.multiply(lower)), lower.multiply(f.lower));
        }

        Fraction minus(Fraction f) {
            return plus(new Fraction(f.upper.negate(), f.lower));
        }

        Fraction times(Fraction f) {
            return new Fraction(upper.multiply(f.upper), lower.multiply(f.lower));
        }

        Fraction over(long number) {
            return new Fraction(upper, lower.multiply(BigInteger.valueOf(number)));
        }

        /** To the nearest integer, halves up: the greatest integer that is not above the fraction plus a half. */
        int rounded() {
            BigInteger two = BigInteger.TWO;
            BigInteger[] parts = upper.multiply(two).add(lower).divideAndRemainder(lower.multiply(two));
            BigInteger floor = parts[1].signum() < 0 ? parts[0].subtract(BigInteger.ONE) : parts[0];
            return floor.intValueExact();
        }

        long whole() {
            BigInteger[] parts = upper.divideAndRemainder(lower);
            if (parts[1].signum() != 0) {
                throw new IllegalStateException("not a whole number");
            }
            return parts[0].longValueExact();
        }
    }

    private record Entry(int year, int number) { }

    private record Vote(int u, int v, int year, Fraction shift) {
        boolean isOf(int c) {
            return u == c || v == c;
        }
    }

    private record Culprit(int station, int year, int votes, int size) { }

    private record Best(long cost, List<Integer> starts) { }

    private String text = "";
    private State state;
    private final Deque<State> before = new ArrayDeque<>();

    // The segmentations of a series, so that the same one is not divided again and again.
    private final Map<String, List<Best>> remembered = new HashMap<>();

    Oracle() {
        text = "ye;s00567567cbcdbcdc;s02678678767b9aba;s30456.565456.565;s3378978987897898;"
            + "sss22233322233322;p12;l2321;";
        lay();
        text = "";
    }

    long answer(String call, int[] a) {
        switch (call) {
            case "write": return write(a[0]);
            case "wipe": return wipe();
            case "fault": return fault();
            case "lay": return lay();
            case "value": return value(a[0], a[1]);
            case "set": return set(a[0], a[1], a[2]);
            case "lose": return lose(a[0], a[1]);
            case "penalty": return penalty(a[0]);
            case "rule": return rule(a[0], a[1]);
            case "undo": return undo();
            case "day": return day(a[0], a[1]);
            case "nearest": return nearest(a[0], a[1]);
            case "pair": return pair(a[0], a[1]);
            case "entry": return entry(a[0], a[1], a[2]);
            case "year": return year(a[0], a[1], a[2]);
            case "spread": return spread(a[0], a[1], a[2], a[3]);
            case "split": return split(a[0], a[1], a[2]);
            case "cost": return cost(a[0], a[1]);
            case "spreads": return spreads(a[0], a[1], a[2]);
            case "breaks": return breaks(a[0], a[1], a[2]);
            case "least": return least(a[0], a[1], a[2]);
            case "votes": return votes(a[0], a[1]);
            case "culprit": return culprit(a[0], a[1]);
            case "mend": return mend(a[0]);
            case "mends": return mends();
            case "ledger": return ledger(a[0], a[1]);
            case "made": return made(a[0], a[1]);
            case "make": return make(a[0], a[1]);
            case "rise": return rise(a[0]);
            case "count": return count(a[0]);
            default: throw new IllegalArgumentException(call);
        }
    }

    // ---- the text

    private int write(int letter) {
        if (letter < 32 || letter > 126) {
            return BAD;
        }
        if (text.length() == 200) {
            return FULL;
        }
        text += (char) letter;
        return text.length();
    }

    private int wipe() {
        int length = text.length();
        text = "";
        return length;
    }

    /** The items of the text; as the last one null if something there is not as described. */
    private List<String> items() {
        List<String> items = new ArrayList<>();
        String rest = text;
        int years = 0;
        int stations = 0;
        while (!rest.isEmpty()) {
            String form = items.isEmpty() ? "y[4-9a-g];"
                : "s[0-9a-s][0-9a-s][0-9a-s.]{" + years + "};|p[0-9][0-9];|l[1-4][1-5][1-5][0-2];";
            Matcher m = Pattern.compile(form).matcher(rest);
            if (!m.lookingAt() || rest.startsWith("s") && stations == 6) {
                items.add(null);
                return items;
            }
            years = items.isEmpty() ? Character.digit(rest.charAt(1), 36) : years;
            stations += rest.startsWith("s") ? 1 : 0;
            items.add(m.group());
            rest = rest.substring(m.end());
        }
        return items;
    }

    private int fault() {
        int at = 0;
        for (String item : items()) {
            if (item == null) {
                return at;
            }
            at += item.length();
        }
        return NONE;
    }

    private int lay() {
        if (fault() != NONE) {
            return NO;
        }
        State s = new State();
        for (String item : items()) {
            int[] n = new int[item.length()];
            for (int i = 0; i < n.length; i++) {
                n[i] = Character.digit(item.charAt(i), 36);
            }
            switch (item.charAt(0)) {
                case 'y':
                    s.years = n[1];
                    break;
                case 'p':
                    s.penalty = Integer.parseInt(item.substring(1, 3));
                    break;
                case 'l':
                    s.rules = new int[] {n[1], n[2], n[3], n[4]};
                    break;
                default:
                    s.places.add(new int[] {n[1], n[2]});
                    Integer[] row = new Integer[s.years];
                    for (int t = 0; t < s.years; t++) {
                        row[t] = n[3 + t] < 0 ? null : Integer.valueOf(n[3 + t]);
                    }
                    s.values.add(row);
                    break;
            }
        }
        if (s.places.size() < 2) {
            return NO;
        }
        state = s;
        before.clear();
        return s.places.size();
    }

    // ---- values and parameters

    private boolean station(int c) {
        return 0 <= c && c < state.places.size();
    }

    private boolean known(int c, int t) {
        return station(c) && 0 <= t && t < state.years;
    }

    private int value(int c, int t) {
        if (!known(c, t)) {
            return BAD;
        }
        Integer v = state.values.get(c)[t];
        return v == null ? NONE : v + ZERO;
    }

    private void change() {
        before.addLast(state.copy());
        if (before.size() > 8) {
            before.removeFirst();
        }
    }

    private int set(int c, int t, int value) {
        if (!known(c, t) || value < -9999 || value > 9999) {
            return BAD;
        }
        int old = value(c, t);
        if (old == value + ZERO) {
            return NO;
        }
        change();
        state.values.get(c)[t] = value;
        return old;
    }

    private int lose(int c, int t) {
        if (!known(c, t)) {
            return BAD;
        }
        int old = value(c, t);
        if (old == NONE) {
            return NO;
        }
        change();
        state.values.get(c)[t] = null;
        return old;
    }

    private int penalty(int p) {
        if (p < 0 || p > 99999) {
            return BAD;
        }
        int old = state.penalty;
        if (old == p) {
            return NO;
        }
        change();
        state.penalty = p;
        return old;
    }

    private int rule(int what, int number) {
        if (what < 0 || what > 3 || number < RANGES[what][0] || number > RANGES[what][1]) {
            return BAD;
        }
        int old = state.rules[what];
        if (old == number) {
            return NO;
        }
        change();
        state.rules[what] = number;
        return old;
    }

    private int undo() {
        if (before.isEmpty()) {
            return NO;
        }
        state = before.removeLast();
        return before.size();
    }

    private int day(int z, int n) {
        if (z < 0 || z > 9999 || n < 1 || n > 20) {
            return BAD;
        }
        int changes = 0;
        for (long k = 0; k < n; k++) {
            long x = 7919L * z + 6151L * k + 1;
            long d = (x * x) % 65521;
            int c = (int) (d % state.places.size());
            int t = (int) ((d / 8) % state.years);
            int v = (int) ((d / 128) % 30);
            int answer = v == 29 ? lose(c, t) : set(c, t, v);
            changes += answer == NO ? 0 : 1;
        }
        return changes;
    }

    // ---- pairs and series

    private int distance(int u, int v) {
        int[] a = state.places.get(u);
        int[] b = state.places.get(v);
        return (a[0] - b[0]) * (a[0] - b[0]) + (a[1] - b[1]) * (a[1] - b[1]);
    }

    private List<Integer> neighbours(int c) {
        List<Integer> others = new ArrayList<>();
        for (int o = 0; o < state.places.size(); o++) {
            if (o != c) {
                others.add(o);
            }
        }
        // The sort is stable: of equal distances the smaller number stays before the greater one.
        others.sort((a, b) -> Integer.compare(distance(c, a), distance(c, b)));
        return others;
    }

    private boolean paired(int u, int v) {
        int n = state.rules[1];
        int a = neighbours(u).indexOf(v);
        int b = neighbours(v).indexOf(u);
        return a < n || b < n;
    }

    private boolean two(int u, int v) {
        return station(u) && station(v) && u != v;
    }

    private List<Entry> series(int u, int v) {
        List<Entry> list = new ArrayList<>();
        for (int t = 0; t < state.years; t++) {
            Integer a = state.values.get(u)[t];
            Integer b = state.values.get(v)[t];
            if (a != null && b != null) {
                list.add(new Entry(t, a - b));
            }
        }
        return list;
    }

    private int nearest(int c, int k) {
        if (!station(c) || k < 0) {
            return BAD;
        }
        List<Integer> list = neighbours(c);
        return k < list.size() ? list.get(k) : NONE;
    }

    private int pair(int u, int v) {
        if (!two(u, v)) {
            return BAD;
        }
        return paired(u, v) ? 1 : 0;
    }

    private int entry(int u, int v, int i) {
        if (!two(u, v) || i < -1) {
            return BAD;
        }
        List<Entry> list = series(u, v);
        if (i == -1) {
            return list.size();
        }
        return i < list.size() ? list.get(i).number() + ZERO : NONE;
    }

    private int year(int u, int v, int i) {
        if (!two(u, v) || i < 0) {
            return BAD;
        }
        List<Entry> list = series(u, v);
        return i < list.size() ? list.get(i).year() : NONE;
    }

    private static Fraction mean(List<Entry> run) {
        long sum = 0;
        for (Entry e : run) {
            sum += e.number();
        }
        return Fraction.of(sum).over(run.size());
    }

    private static long scaledSpread(List<Entry> run) {
        Fraction mean = mean(run);
        Fraction sum = Fraction.of(0);
        for (Entry e : run) {
            Fraction d = Fraction.of(e.number()).minus(mean);
            sum = sum.plus(d.times(d));
        }
        return sum.times(Fraction.of(SCALE)).whole();
    }

    private long spread(int u, int v, int i, int j) {
        if (!two(u, v) || i < 0 || j < i || j >= series(u, v).size()) {
            return BAD;
        }
        return scaledSpread(series(u, v).subList(i, j + 1));
    }

    // ---- segmentations

    /** For each number of breaks the best segmentation with so many; null where there is none. */
    private List<Best> bestByBreaks(List<Entry> list, int r) {
        int n = list.size();
        List<Best> bests = new ArrayList<>(Collections.nCopies(Math.max(n, 1), (Best) null));
        if (n == 0) {
            bests.set(0, new Best(0, List.of()));
            return bests;
        }
        long[][] spreads = new long[n][n + 1];
        for (int i = 0; i < n; i++) {
            for (int j = i + 1; j <= n; j++) {
                spreads[i][j] = scaledSpread(list.subList(i, j));
            }
        }
        for (int mask = 0; mask < 1 << (n - 1); mask++) {
            List<Integer> starts = new ArrayList<>();
            for (int i = 1; i < n; i++) {
                if ((mask >> (i - 1) & 1) == 1) {
                    starts.add(i);
                }
            }
            long cost = 0;
            boolean fine = true;
            for (int k = 0; k <= starts.size() && fine; k++) {
                int from = k == 0 ? 0 : starts.get(k - 1);
                int to = k == starts.size() ? n : starts.get(k);
                cost += spreads[from][to];
                fine = mask == 0 || to - from >= r;
            }
            Best old = bests.get(starts.size());
            if (fine && (old == null || cost < old.cost() || cost == old.cost() && earlier(starts, old.starts()))) {
                bests.set(starts.size(), new Best(cost, starts));
            }
        }
        return bests;
    }

    private static boolean earlier(List<Integer> a, List<Integer> b) {
        for (int i = 0; i < a.size(); i++) {
            if (!a.get(i).equals(b.get(i))) {
                return a.get(i) < b.get(i);
            }
        }
        return false;
    }

    private List<Best> bests(int u, int v) {
        List<Entry> list = series(u, v);
        String key = state.rules[0] + " " + list;
        return remembered.computeIfAbsent(key, k -> bestByBreaks(list, state.rules[0]));
    }

    private static long withPenalty(Best best, int p) {
        return best.cost() + SCALE * p * best.starts().size();
    }

    private Best best(int u, int v, int p) {
        Best best = null;
        for (Best b : bests(u, v)) {
            if (b != null && (best == null || withPenalty(b, p) < withPenalty(best, p))) {
                best = b;
            }
        }
        return best;
    }

    private int split(int u, int v, int k) {
        if (!two(u, v) || k < -1) {
            return BAD;
        }
        List<Integer> starts = best(u, v, state.penalty).starts();
        if (k == -1) {
            return starts.size();
        }
        return k < starts.size() ? series(u, v).get(starts.get(k)).year() : NONE;
    }

    private long cost(int u, int v) {
        return two(u, v) ? withPenalty(best(u, v, state.penalty), state.penalty) : BAD;
    }

    private long spreads(int u, int v, int k) {
        if (!two(u, v) || k < 0) {
            return BAD;
        }
        List<Best> list = bests(u, v);
        return k < list.size() && list.get(k) != null ? list.get(k).cost() : NONE;
    }

    private int breaks(int u, int v, int p) {
        return !two(u, v) || p < 0 || p > 99999 ? BAD : best(u, v, p).starts().size();
    }

    private int least(int u, int v, int k) {
        if (!two(u, v) || k < 0) {
            return BAD;
        }
        for (int p = 0; p <= 99999; p++) {
            if (best(u, v, p).starts().size() <= k) {
                return p;
            }
        }
        return NONE;
    }

    // ---- culprits

    private List<Vote> allVotes() {
        List<Vote> votes = new ArrayList<>();
        for (int u = 0; u < state.places.size(); u++) {
            for (int v = u + 1; v < state.places.size(); v++) {
                if (paired(u, v)) {
                    List<Entry> list = series(u, v);
                    List<Integer> starts = best(u, v, state.penalty).starts();
                    for (int k = 0; k < starts.size(); k++) {
                        int from = k == 0 ? 0 : starts.get(k - 1);
                        int at = starts.get(k);
                        int to = k + 1 == starts.size() ? list.size() : starts.get(k + 1);
                        Fraction shift = mean(list.subList(at, to)).minus(mean(list.subList(from, at)));
                        votes.add(new Vote(u, v, list.get(at).year(), shift));
                    }
                }
            }
        }
        return votes;
    }

    private static int tally(List<Vote> votes, int c, int t) {
        int n = 0;
        for (Vote vote : votes) {
            n += vote.isOf(c) && vote.year() == t ? 1 : 0;
        }
        return n;
    }

    private List<Culprit> culprits() {
        List<Vote> left = allVotes();
        List<Culprit> list = new ArrayList<>();
        while (true) {
            int most = 0;
            int station = 0;
            int year = 0;
            for (int c = state.places.size() - 1; c >= 0; c--) {
                for (int t = state.years - 1; t >= 0; t--) {
                    if (tally(left, c, t) >= most) {
                        most = tally(left, c, t);
                        station = c;
                        year = t;
                    }
                }
            }
            if (most < state.rules[2]) {
                return list;
            }
            Fraction sum = Fraction.of(0);
            for (Vote vote : left) {
                if (vote.year() == year && vote.u() == station) {
                    sum = sum.plus(vote.shift());
                } else if (vote.year() == year && vote.v() == station) {
                    sum = sum.minus(vote.shift());
                }
            }
            list.add(new Culprit(station, year, most, sum.over(most).rounded()));
            int c = station;
            int t = year;
            left.removeIf(vote -> vote.isOf(c) && Math.abs(vote.year() - t) <= state.rules[3]);
        }
    }

    private int votes(int c, int t) {
        return known(c, t) ? tally(allVotes(), c, t) : BAD;
    }

    private int culprit(int i, int what) {
        if (i < -1 || what < 0 || what > 3) {
            return BAD;
        }
        List<Culprit> list = culprits();
        if (i == -1) {
            return list.size();
        }
        if (i >= list.size()) {
            return NONE;
        }
        Culprit c = list.get(i);
        return new int[] {c.station(), c.year(), c.votes(), c.size() + ZERO}[what];
    }

    private int mend(int i) {
        if (i < 0) {
            return BAD;
        }
        List<Culprit> list = culprits();
        if (i >= list.size()) {
            return NONE;
        }
        if (state.ledger.size() == 10) {
            return FULL;
        }
        Culprit c = list.get(i);
        Integer[] row = state.values.get(c.station()).clone();
        for (int t = 0; t < c.year(); t++) {
            row[t] = row[t] == null ? null : Integer.valueOf(row[t] + c.size());
            if (row[t] != null && Math.abs(row[t]) > 9999) {
                return NO;
            }
        }
        if (c.size() == 0) {
            return NO;
        }
        change();
        state.values.set(c.station(), row);
        state.ledger.add(new int[] {c.station(), c.year(), c.size() + ZERO});
        return state.ledger.size();
    }

    private int mends() {
        for (int n = 0; n < 12; n++) {
            if (mend(0) < 0) {
                return n;
            }
        }
        return 12;
    }

    private int ledger(int k, int what) {
        if (k < -1 || what < 0 || what > 2) {
            return BAD;
        }
        if (k == -1) {
            return state.ledger.size();
        }
        return k < state.ledger.size() ? state.ledger.get(k)[what] : NONE;
    }

    // ---- estimates and trends

    private int made(int c, int t) {
        if (!known(c, t)) {
            return BAD;
        }
        if (state.values.get(c)[t] != null) {
            return NO;
        }
        List<Fraction> hints = new ArrayList<>();
        for (int o = 0; o < state.places.size(); o++) {
            if (o != c && paired(c, o) && state.values.get(o)[t] != null && !series(c, o).isEmpty()) {
                hints.add(Fraction.of(state.values.get(o)[t]).plus(mean(series(c, o))));
            }
        }
        if (hints.isEmpty()) {
            return NONE;
        }
        Fraction sum = Fraction.of(0);
        for (Fraction f : hints) {
            sum = sum.plus(f);
        }
        return sum.over(hints.size()).rounded() + ZERO;
    }

    private int make(int c, int t) {
        int made = made(c, t);
        if (made < 0) {
            return made;
        }
        return set(c, t, made - ZERO) == BAD ? FULL : made;
    }

    private int rise(int c) {
        if (!station(c)) {
            return BAD;
        }
        int trend = ZERO;
        Integer[] row = state.values.get(c);
        for (int s = 0; s < state.years; s++) {
            for (int t = s + 1; t < state.years; t++) {
                if (row[s] != null && row[t] != null) {
                    trend += row[t] > row[s] ? 1 : row[t] < row[s] ? -1 : 0;
                }
            }
        }
        return trend;
    }

    private int count(int what) {
        int pairs = 0;
        int missing = 0;
        for (int u = 0; u < state.places.size(); u++) {
            for (int v = 0; v < u; v++) {
                pairs += paired(u, v) ? 1 : 0;
            }
            for (Integer v : state.values.get(u)) {
                missing += v == null ? 1 : 0;
            }
        }
        int[] counts = {state.places.size(), state.years, state.penalty, state.rules[0], state.rules[1],
            state.rules[2], state.rules[3], pairs, missing, before.size(), text.length()};
        return what < 0 || what >= counts.length ? BAD : counts[what];
    }
}
