/** Homogenization of climate records; README.md tells how the parts work together. */
public final class ShiftMender {
    public static final int BAD = -1, NO = -2, FULL = -3, NONE = -4, ZERO = 100000;

    private static final int MOST_STATIONS = 6;
    private static final int MOST_YEARS = 16;
    private static final int MOST_PAIRS = 15;
    private static final int MOST_CULPRITS = MOST_STATIONS * MOST_YEARS;
    private static final int MOST_LETTERS = 200;
    private static final int MOST_LEDGER = 10;
    private static final int MOST_CHANGES = 8;
    private static final int MOST_MENDED_AT_ONCE = 12;
    private static final int LARGEST_VALUE = 9999;
    private static final int LARGEST_PENALTY = 99999;

    // A run has 1 to 16 entries, and each of these lengths divides the scale: scaled means are integers.
    private static final int SCALE = 720720;

    // Stands in the place of a value; no value is as large.
    private static final int MISSING = 1000000;

    // The parameters beside the penalty, by the numbers that rule() gives them.
    private static final int LEAST_RUN = 0, NEIGHBOURS = 1, VOTES_WANTED = 2, WINDOW = 3, RULES = 4;
    private static final int[] LEAST_RULE = {1, 1, 1, 0};
    private static final int[] GREATEST_RULE = {4, 5, 5, 2};
    private static final int[] USUAL_RULE = {2, 3, 2, 0};
    private static final int USUAL_PENALTY = 20;

    // The properties of a culprit, by the numbers that culprit() gives them.
    private static final int STATION = 0, YEAR = 1, VOTES = 2, SIZE = 3, PROPERTIES = 4;

    // The properties of an entry of the ledger, by the numbers that ledger() gives them.
    private static final int SHIFT = 2, COLUMNS = 3;

    // The parts of a change. Its place is a station or the number of a parameter, its number what was there
    // before, or the size of a mending.
    private static final int KIND = 0, PLACE = 1, WHEN = 2, NUMBER = 3, PARTS = 4;
    private static final int NEW_VALUE = 0, NEW_PENALTY = 1, NEW_RULE = 2, MENDING = 3;

    private static final String FIRST_STATIONS =
        "ye;s00567567cbcdbcdc;s02678678767b9aba;s30456.565456.565;s3378978987897898;sss22233322233322;p12;l2321;";

    private final Script script = new Script();
    private final Records records = new Records();
    private final Series series = new Series();
    private final Segmentation segmentation = new Segmentation();
    private final Culprits culprits = new Culprits();
    private final History history = new History();
    private final Ledger ledger = new Ledger();

    public ShiftMender() {
        for (int i = 0; i < FIRST_STATIONS.length(); i++) {
            script.append(FIRST_STATIONS.charAt(i));
        }
        layScript();
        script.clear();
    }

    // ---- stations

    public int write(int letter) {
        if (letter < 32 || letter > 126) {
            return BAD;
        }
        return script.append((char) letter) ? script.length() : FULL;
    }

    public int wipe() {
        int length = script.length();
        script.clear();
        return length;
    }

    public int fault() {
        return script.read();
    }

    public int lay() {
        return layScript();
    }

    private int layScript() {
        if (script.read() != NONE || script.draft().stations() < 2) {
            return NO;
        }
        records.copyFrom(script.draft());
        ledger.clear();
        history.clear();
        return records.stations();
    }

    public int value(int c, int t) {
        return records.knows(c, t) ? shown(records.at(c, t)) : BAD;
    }

    private static int shown(int value) {
        return value == MISSING ? NONE : value + ZERO;
    }

    private static boolean isValue(int number) {
        return number >= -LARGEST_VALUE && number <= LARGEST_VALUE;
    }

    // ---- values and parameters

    public int set(int c, int t, int value) {
        if (!records.knows(c, t) || !isValue(value)) {
            return BAD;
        }
        int before = records.at(c, t);
        return changeValue(c, t, value) ? shown(before) : NO;
    }

    public int lose(int c, int t) {
        if (!records.knows(c, t)) {
            return BAD;
        }
        int before = records.at(c, t);
        return changeValue(c, t, MISSING) ? shown(before) : NO;
    }

    /** Gives a value, or MISSING, to a known station and year; false if it is there already. */
    private boolean changeValue(int c, int t, int value) {
        int before = records.at(c, t);
        if (before == value) {
            return false;
        }
        history.add(NEW_VALUE, c, t, before);
        records.put(c, t, value);
        return true;
    }

    public int penalty(int p) {
        if (!isPenalty(p)) {
            return BAD;
        }
        int before = records.breakPenalty();
        if (before == p) {
            return NO;
        }
        history.add(NEW_PENALTY, 0, 0, before);
        records.setBreakPenalty(p);
        return before;
    }

    private static boolean isPenalty(int p) {
        return p >= 0 && p <= LARGEST_PENALTY;
    }

    public int rule(int what, int number) {
        if (!isRule(what, number)) {
            return BAD;
        }
        int before = records.ruleOf(what);
        if (before == number) {
            return NO;
        }
        history.add(NEW_RULE, what, 0, before);
        records.setRule(what, number);
        return before;
    }

    private static boolean isRule(int what, int number) {
        return what >= 0 && what < RULES && number >= LEAST_RULE[what] && number <= GREATEST_RULE[what];
    }

    public int undo() {
        if (history.length() == 0) {
            return NO;
        }
        int place = history.latest(PLACE);
        int year = history.latest(WHEN);
        int number = history.latest(NUMBER);
        switch (history.latest(KIND)) {
            case NEW_VALUE:
                records.put(place, year, number);
                break;
            case NEW_PENALTY:
                records.setBreakPenalty(number);
                break;
            case NEW_RULE:
                records.setRule(place, number);
                break;
            default:
                records.shiftEarlier(place, year, -number);
                ledger.dropLast();
                break;
        }
        history.dropLatest();
        return history.length();
    }

    public int day(int z, int n) {
        if (z < 0 || z > 9999 || n < 1 || n > 20) {
            return BAD;
        }
        int changes = 0;
        for (int k = 0; k < n; k++) {
            long x = 7919L * z + 6151L * k + 1;
            int d = (int) ((x * x) % 65521);
            int value = (d / 128) % 30;
            int c = remainder(d, records.stations());
            int t = remainder(d / 8, records.years());
            if (changeValue(c, t, value == 29 ? MISSING : value)) {
                changes++;
            }
        }
        return changes;
    }

    private static int remainder(int number, int divisor) {
        return divisor < 1 ? 0 : number % divisor;
    }

    // ---- pairs and series

    public int nearest(int c, int k) {
        if (!records.hasStation(c) || k < 0) {
            return BAD;
        }
        for (int other = 0; other < records.stations(); other++) {
            if (other != c && records.rank(c, other) == k) {
                return other;
            }
        }
        return NONE;
    }

    public int pair(int u, int v) {
        if (!areTwoStations(u, v)) {
            return BAD;
        }
        return records.arePair(u, v) ? 1 : 0;
    }

    private boolean areTwoStations(int u, int v) {
        return records.hasStation(u) && records.hasStation(v) && u != v;
    }

    public int entry(int u, int v, int i) {
        if (!areTwoStations(u, v) || i < -1) {
            return BAD;
        }
        series.compare(records, u, v);
        if (i == -1) {
            return series.length();
        }
        return i < series.length() ? series.entryAt(i) + ZERO : NONE;
    }

    public int year(int u, int v, int i) {
        if (!areTwoStations(u, v) || i < 0) {
            return BAD;
        }
        series.compare(records, u, v);
        return i < series.length() ? series.yearAt(i) : NONE;
    }

    public long spread(int u, int v, int i, int j) {
        if (!areTwoStations(u, v)) {
            return BAD;
        }
        series.compare(records, u, v);
        if (i < 0 || j < i || j >= series.length()) {
            return BAD;
        }
        return series.scaledSpread(i, j + 1);
    }

    // ---- segmentations

    public int split(int u, int v, int k) {
        if (!areTwoStations(u, v) || k < -1) {
            return BAD;
        }
        segment(u, v, records.breakPenalty());
        if (k == -1) {
            return segmentation.breakCount();
        }
        return k < segmentation.breakCount() ? segmentation.breakYear(k) : NONE;
    }

    private void segment(int u, int v, int penalty) {
        segmentation.compare(records, u, v);
        segmentation.fit(records.ruleOf(LEAST_RUN), penalty);
    }

    public long cost(int u, int v) {
        if (!areTwoStations(u, v)) {
            return BAD;
        }
        segment(u, v, records.breakPenalty());
        return segmentation.scaledCost();
    }

    public long spreads(int u, int v, int k) {
        if (!areTwoStations(u, v) || k < 0) {
            return BAD;
        }
        segmentation.compare(records, u, v);
        return segmentation.scaledSpreads(records.ruleOf(LEAST_RUN), k);
    }

    public int breaks(int u, int v, int p) {
        if (!areTwoStations(u, v) || !isPenalty(p)) {
            return BAD;
        }
        segment(u, v, p);
        return segmentation.breakCount();
    }

    public int least(int u, int v, int k) {
        if (!areTwoStations(u, v) || k < 0) {
            return BAD;
        }
        segmentation.compare(records, u, v);
        // A greater penalty never brings more breaks: halving steps find the last penalty with too many.
        int tooSmall = -1;
        for (int step = 65536; step > 0; step /= 2) {
            int p = tooSmall + step;
            if (p <= LARGEST_PENALTY) {
                segmentation.fit(records.ruleOf(LEAST_RUN), p);
                tooSmall = segmentation.breakCount() > k ? p : tooSmall;
            }
        }
        return tooSmall < LARGEST_PENALTY ? tooSmall + 1 : NONE;
    }

    // ---- culprits

    public int votes(int c, int t) {
        if (!records.knows(c, t)) {
            return BAD;
        }
        culprits.refresh(records);
        return culprits.votesCast(c, t);
    }

    public int culprit(int i, int what) {
        if (i < -1 || what < 0 || what >= PROPERTIES) {
            return BAD;
        }
        culprits.refresh(records);
        if (i == -1) {
            return culprits.length();
        }
        if (i >= culprits.length()) {
            return NONE;
        }
        return what == SIZE ? culprits.property(i, what) + ZERO : culprits.property(i, what);
    }

    public int mend(int i) {
        return i < 0 ? BAD : mendCulprit(i);
    }

    private int mendCulprit(int i) {
        culprits.refresh(records);
        if (i >= culprits.length()) {
            return NONE;
        }
        if (ledger.isFull()) {
            return FULL;
        }
        int c = culprits.property(i, STATION);
        int t = culprits.property(i, YEAR);
        int size = culprits.property(i, SIZE);
        if (size == 0 || !records.canShiftEarlier(c, t, size)) {
            return NO;
        }
        history.add(MENDING, c, t, size);
        records.shiftEarlier(c, t, size);
        ledger.add(c, t, size);
        return ledger.length();
    }

    public int mends() {
        int mended = 0;
        while (mended < MOST_MENDED_AT_ONCE && mendCulprit(0) > 0) {
            mended++;
        }
        return mended;
    }

    public int ledger(int k, int what) {
        if (k < -1 || what < 0 || what >= COLUMNS) {
            return BAD;
        }
        if (k == -1) {
            return ledger.length();
        }
        if (k >= ledger.length()) {
            return NONE;
        }
        return what == SHIFT ? ledger.property(k, what) + ZERO : ledger.property(k, what);
    }

    // ---- estimates and trends

    public int made(int c, int t) {
        return estimate(c, t);
    }

    public int make(int c, int t) {
        int estimate = estimate(c, t);
        if (estimate < 0) {
            return estimate;
        }
        if (!isValue(estimate - ZERO)) {
            return FULL;
        }
        changeValue(c, t, estimate - ZERO);
        return estimate;
    }

    /** The estimate plus ZERO, which is never negative, or an error. */
    private int estimate(int c, int t) {
        if (!records.knows(c, t)) {
            return BAD;
        }
        if (records.has(c, t)) {
            return NO;
        }
        long total = 0;
        int helpers = 0;
        for (int other = 0; other < records.stations(); other++) {
            if (other != c && records.has(other, t) && records.arePair(c, other)) {
                series.compare(records, c, other);
                if (series.length() > 0) {
                    total += (long) SCALE * records.at(other, t) + series.scaledMean(0, series.length());
                    helpers++;
                }
            }
        }
        return helpers == 0 ? NONE : roundedMean(total, helpers) + ZERO;
    }

    /** The mean of some numbers with this scaled total, rounded to the nearest integer, halves up. */
    private static int roundedMean(long scaledTotal, int numbers) {
        if (numbers < 1) {
            return 0;
        }
        long half = (long) SCALE * numbers;
        return (int) Math.floorDiv(2 * scaledTotal + half, 2 * half);
    }

    public int rise(int c) {
        if (!records.hasStation(c)) {
            return BAD;
        }
        int trend = 0;
        for (int later = 1; later < records.years(); later++) {
            for (int earlier = 0; earlier < later; earlier++) {
                if (records.has(c, earlier) && records.has(c, later)) {
                    trend += direction(records.at(c, earlier), records.at(c, later));
                }
            }
        }
        return trend + ZERO;
    }

    /** 1 if it goes up, -1 if it goes down, otherwise 0. */
    private static int direction(int from, int to) {
        if (from == to) {
            return 0;
        }
        return from < to ? 1 : -1;
    }

    // ---- counts

    public int count(int what) {
        switch (what) {
            case 0:
                return records.stations();
            case 1:
                return records.years();
            case 2:
                return records.breakPenalty();
            case 3:
                return records.ruleOf(LEAST_RUN);
            case 4:
                return records.ruleOf(NEIGHBOURS);
            case 5:
                return records.ruleOf(VOTES_WANTED);
            case 6:
                return records.ruleOf(WINDOW);
            case 7:
                return records.countPairs();
            case 8:
                return records.countMissing();
            case 9:
                return history.length();
            case 10:
                return script.length();
            default:
                return BAD;
        }
    }

    /** The text in which stations are written. */
    private static final class Script {
        private final char[] letters = new char[MOST_LETTERS];
        private int length;

        // What the items read so far describe.
        private final Records draft = new Records();

        /** False if there is no room. */
        boolean append(char letter) {
            if (length >= MOST_LETTERS) {
                return false;
            }
            letters[length] = letter;
            length++;
            return true;
        }

        void clear() {
            length = 0;
        }

        int length() {
            return length;
        }

        Records draft() {
            return draft;
        }

        /** Makes the draft anew; answers the index of the first item that is not as described, or NONE. */
        int read() {
            draft.startAfresh();
            int at = 0;
            while (at < length) {
                int size = readItem(at);
                if (size < 1) {
                    return at;
                }
                at += size;
            }
            return NONE;
        }

        /** Takes an item into the draft; answers its length, or 0 if it is not as described. */
        private int readItem(int at) {
            char kind = letters[at];
            if (kind == 'y') {
                return readYears(at);
            }
            if (draft.years() == 0) {
                return 0;
            }
            if (kind == 's') {
                return readStation(at);
            }
            if (kind == 'p') {
                return readPenalty(at);
            }
            return kind == 'l' ? readRules(at) : 0;
        }

        private int readYears(int at) {
            int years = signAt(at + 1);
            if (at != 0 || years < 4 || years > MOST_YEARS || !endsAt(at + 2)) {
                return 0;
            }
            draft.setYears(years);
            return 3;
        }

        private int readStation(int at) {
            int first = at + 3;
            int end = first + draft.years();
            int x = signAt(at + 1);
            int y = signAt(at + 2);
            if (x < 0 || y < 0 || !endsAt(end)) {
                return 0;
            }
            for (int i = first; i < end; i++) {
                if (signAt(i) < 0 && letters[i] != '.') {
                    return 0;
                }
            }
            if (!draft.addStation(x, y)) {
                return 0;
            }
            for (int i = first; i < end; i++) {
                draft.put(draft.stations() - 1, i - first, letters[i] == '.' ? MISSING : signAt(i));
            }
            return end + 1 - at;
        }

        private int readPenalty(int at) {
            int tens = signAt(at + 1);
            int ones = signAt(at + 2);
            if (tens < 0 || tens > 9 || ones < 0 || ones > 9 || !endsAt(at + 3)) {
                return 0;
            }
            draft.setBreakPenalty(10 * tens + ones);
            return 4;
        }

        private int readRules(int at) {
            int end = at + 1 + RULES;
            if (!endsAt(end)) {
                return 0;
            }
            for (int what = 0; what < RULES; what++) {
                if (!isRule(what, signAt(at + 1 + what))) {
                    return 0;
                }
            }
            for (int what = 0; what < RULES; what++) {
                draft.setRule(what, signAt(at + 1 + what));
            }
            return end + 1 - at;
        }

        private boolean endsAt(int i) {
            return i < length && letters[i] == ';';
        }

        /** The number that a sign stands for, or -1 if there is no such sign. */
        private int signAt(int i) {
            if (i >= length) {
                return -1;
            }
            char sign = letters[i];
            if (sign >= '0' && sign <= '9') {
                return sign - '0';
            }
            return sign >= 'a' && sign <= 's' ? sign - 'a' + 10 : -1;
        }
    }

    /** The stations with their values, and the parameters. */
    private static final class Records {
        private int years;
        private int stations;
        private final int[] x = new int[MOST_STATIONS];
        private final int[] y = new int[MOST_STATIONS];
        private final int[][] values = new int[MOST_STATIONS][MOST_YEARS];
        private int breakPenalty;
        private final int[] rules = new int[RULES];

        // Grows with each change, so that what was computed from the records can be known to be old.
        private int version;

        void startAfresh() {
            years = 0;
            stations = 0;
            breakPenalty = USUAL_PENALTY;
            for (int what = 0; what < RULES; what++) {
                rules[what] = USUAL_RULE[what];
            }
            version++;
        }

        void copyFrom(Records other) {
            years = other.years;
            stations = other.stations;
            breakPenalty = other.breakPenalty;
            for (int what = 0; what < RULES; what++) {
                rules[what] = other.rules[what];
            }
            for (int c = 0; c < stations; c++) {
                x[c] = other.x[c];
                y[c] = other.y[c];
                for (int t = 0; t < years; t++) {
                    values[c][t] = other.values[c][t];
                }
            }
            version++;
        }

        void setYears(int number) {
            years = number;
            version++;
        }

        /** False if there are too many already. */
        boolean addStation(int placeX, int placeY) {
            if (stations >= MOST_STATIONS) {
                return false;
            }
            x[stations] = placeX;
            y[stations] = placeY;
            stations++;
            version++;
            return true;
        }

        int version() {
            return version;
        }

        int years() {
            return years;
        }

        int stations() {
            return stations;
        }

        boolean hasStation(int c) {
            return c >= 0 && c < stations;
        }

        /** Whether there is this station and this year. */
        boolean knows(int c, int t) {
            return hasStation(c) && t >= 0 && t < years;
        }

        boolean has(int c, int t) {
            return values[c][t] != MISSING;
        }

        int at(int c, int t) {
            return values[c][t];
        }

        void put(int c, int t, int value) {
            values[c][t] = value;
            version++;
        }

        int breakPenalty() {
            return breakPenalty;
        }

        void setBreakPenalty(int p) {
            breakPenalty = p;
            version++;
        }

        int ruleOf(int what) {
            return rules[what];
        }

        void setRule(int what, int number) {
            rules[what] = number;
            version++;
        }

        boolean canShiftEarlier(int c, int year, int size) {
            for (int t = 0; t < year; t++) {
                if (has(c, t) && !isValue(values[c][t] + size)) {
                    return false;
                }
            }
            return true;
        }

        void shiftEarlier(int c, int year, int size) {
            for (int t = 0; t < year; t++) {
                if (has(c, t)) {
                    values[c][t] += size;
                }
            }
            version++;
        }

        /** How many of the other stations are neighbours of c nearer than this one. */
        int rank(int c, int neighbour) {
            int distance = squaredDistance(c, neighbour);
            int rank = 0;
            for (int other = 0; other < stations; other++) {
                int rival = squaredDistance(c, other);
                if (other != c && (rival < distance || rival == distance && other < neighbour)) {
                    rank++;
                }
            }
            return rank;
        }

        private int squaredDistance(int u, int v) {
            int dx = x[u] - x[v];
            int dy = y[u] - y[v];
            return dx * dx + dy * dy;
        }

        /** Whether two different stations are a pair. */
        boolean arePair(int u, int v) {
            return rank(u, v) < rules[NEIGHBOURS] || rank(v, u) < rules[NEIGHBOURS];
        }

        int countPairs() {
            int pairs = 0;
            for (int u = 0; u < stations; u++) {
                for (int v = u + 1; v < stations; v++) {
                    if (arePair(u, v)) {
                        pairs++;
                    }
                }
            }
            return pairs;
        }

        int countMissing() {
            int missing = 0;
            for (int c = 0; c < stations; c++) {
                for (int t = 0; t < years; t++) {
                    if (!has(c, t)) {
                        missing++;
                    }
                }
            }
            return missing;
        }
    }

    /** The differences of two stations in the years in which both have a value. */
    private static final class Series {
        private int length;
        private final int[] entries = new int[MOST_YEARS];
        private final int[] years = new int[MOST_YEARS];

        // Index i: of the entries before i.
        private final long[] sums = new long[MOST_YEARS + 1];
        private final long[] squares = new long[MOST_YEARS + 1];

        void compare(Records records, int u, int v) {
            length = 0;
            for (int t = 0; t < records.years(); t++) {
                if (records.has(u, t) && records.has(v, t)) {
                    add(t, records.at(u, t) - records.at(v, t));
                }
            }
        }

        private void add(int year, int entry) {
            if (length >= MOST_YEARS) {
                return;
            }
            entries[length] = entry;
            years[length] = year;
            sums[length + 1] = sums[length] + entry;
            squares[length + 1] = squares[length] + (long) entry * entry;
            length++;
        }

        int length() {
            return length;
        }

        int entryAt(int i) {
            return entries[i];
        }

        int yearAt(int i) {
            return years[i];
        }

        /** Of the entries from one index to before another one. */
        long scaledMean(int from, int to) {
            return to <= from ? 0 : (sums[to] - sums[from]) * (SCALE / (to - from));
        }

        /** Of the entries from one index to before another one. */
        long scaledSpread(int from, int to) {
            if (to <= from) {
                return 0;
            }
            int size = to - from;
            long sum = sums[to] - sums[from];
            return (size * (squares[to] - squares[from]) - sum * sum) * (SCALE / size);
        }
    }

    /** Divides a series into runs. Index i of its rows: for the entries from i to the end. */
    private static final class Segmentation {
        private final Series series = new Series();

        private final long[] costs = new long[MOST_YEARS + 1];
        private final int[] breakCounts = new int[MOST_YEARS + 1];
        private final int[] nextStarts = new int[MOST_YEARS + 1];

        private final long[] fixedCosts = new long[MOST_YEARS + 1];

        // The first indices of the runs of the best segmentation, and behind them the length of the series.
        private final int[] starts = new int[MOST_YEARS + 2];

        /** Takes the series of these two stations. */
        void compare(Records records, int u, int v) {
            series.compare(records, u, v);
        }

        /** Finds the best segmentation of the series. */
        void fit(int leastRun, int penalty) {
            int end = series.length();
            long scaledPenalty = (long) SCALE * penalty;
            costs[0] = 0;
            breakCounts[0] = 0;
            nextStarts[0] = end;
            for (int i = end - 1; i >= 0; i--) {
                fitFrom(i, leastRun, scaledPenalty);
            }
            keepStarts();
        }

        /**
         * Earlier starts of the next run come first here, so that of equal segmentations the one with the
         * earliest breaks stays. Rows of ends that are too short for a run are never looked at.
         */
        private void fitFrom(int i, int leastRun, long scaledPenalty) {
            int end = series.length();
            costs[i] = series.scaledSpread(i, end);
            breakCounts[i] = 0;
            nextStarts[i] = end;
            for (int j = i + leastRun; j <= end - leastRun; j++) {
                long cost = series.scaledSpread(i, j) + scaledPenalty + costs[j];
                int breaks = breakCounts[j] + 1;
                if (cost < costs[i] || cost == costs[i] && breaks < breakCounts[i]) {
                    costs[i] = cost;
                    breakCounts[i] = breaks;
                    nextStarts[i] = j;
                }
            }
        }

        private void keepStarts() {
            starts[0] = 0;
            for (int k = 0; k <= breakCounts[0]; k++) {
                starts[k + 1] = nextStarts[starts[k]];
            }
        }

        int breakCount() {
            return breakCounts[0];
        }

        int breakYear(int k) {
            return series.yearAt(starts[k + 1]);
        }

        /** The mean of the run behind a break minus the mean of the run before it. */
        long scaledShift(int k) {
            return series.scaledMean(starts[k + 1], starts[k + 2]) - series.scaledMean(starts[k], starts[k + 1]);
        }

        long scaledCost() {
            return costs[0];
        }

        /** The smallest sum of spreads with this number of breaks, or NONE. */
        long scaledSpreads(int leastRun, int breaks) {
            int end = series.length();
            if (breaks > 0 && (breaks >= end || (breaks + 1) * leastRun > end)) {
                return NONE;
            }
            for (int i = 0; i <= end; i++) {
                fixedCosts[i] = series.scaledSpread(i, end);
            }
            for (int runs = 2; runs <= breaks + 1; runs++) {
                addRun(runs, leastRun);
            }
            return fixedCosts[0];
        }

        /** From the costs with one run fewer; a row needs only later ones, so that it can be written over. */
        private void addRun(int runs, int leastRun) {
            int lastStart = series.length() - (runs - 1) * leastRun;
            for (int i = 0; i + leastRun <= lastStart; i++) {
                long best = series.scaledSpread(i, i + leastRun) + fixedCosts[i + leastRun];
                for (int j = i + leastRun + 1; j <= lastStart; j++) {
                    best = Math.min(best, series.scaledSpread(i, j) + fixedCosts[j]);
                }
                fixedCosts[i] = best;
            }
        }
    }

    /** The votes of all pairs, and the culprits that they tell. */
    private static final class Culprits {
        private final Segmentation segmentation = new Segmentation();
        private int version = -1;

        private int pairs;
        private final int[] firsts = new int[MOST_PAIRS];
        private final int[] seconds = new int[MOST_PAIRS];

        // For a pair and a year: 1 if its break there is a vote still, and the shift of its series there.
        private final int[][] open = new int[MOST_PAIRS][MOST_YEARS];
        private final long[][] shifts = new long[MOST_PAIRS][MOST_YEARS];

        // For a station and a year: all votes, and those that are left.
        private final int[][] cast = new int[MOST_STATIONS][MOST_YEARS];
        private final int[][] left = new int[MOST_STATIONS][MOST_YEARS];

        private int length;
        private final int[][] found = new int[PROPERTIES][MOST_CULPRITS];

        /**
         * Determines everything anew if the records have changed. Each culprit takes away all votes for its
         * station and year, so that none is found twice.
         */
        void refresh(Records records) {
            if (version == records.version()) {
                return;
            }
            version = records.version();
            clear();
            for (int u = 0; u < records.stations(); u++) {
                for (int v = u + 1; v < records.stations(); v++) {
                    if (records.arePair(u, v)) {
                        addPair(records, u, v);
                    }
                }
            }
            while (length < MOST_CULPRITS && findCulprit(records)) {
                strikeVotes(records, found[STATION][length], found[YEAR][length]);
                length++;
            }
        }

        int votesCast(int c, int t) {
            return cast[c][t];
        }

        int length() {
            return length;
        }

        int property(int i, int what) {
            return found[what][i];
        }

        private void clear() {
            length = 0;
            pairs = 0;
            for (int t = 0; t < MOST_YEARS; t++) {
                for (int p = 0; p < MOST_PAIRS; p++) {
                    open[p][t] = 0;
                }
                for (int c = 0; c < MOST_STATIONS; c++) {
                    cast[c][t] = 0;
                    left[c][t] = 0;
                }
            }
        }

        private void addPair(Records records, int u, int v) {
            if (pairs >= MOST_PAIRS) {
                return;
            }
            firsts[pairs] = u;
            seconds[pairs] = v;
            segmentation.compare(records, u, v);
            segmentation.fit(records.ruleOf(LEAST_RUN), records.breakPenalty());
            for (int k = 0; k < segmentation.breakCount(); k++) {
                int t = segmentation.breakYear(k);
                open[pairs][t] = 1;
                shifts[pairs][t] = segmentation.scaledShift(k);
                cast[u][t]++;
                cast[v][t]++;
                left[u][t]++;
                left[v][t]++;
            }
            pairs++;
        }

        /** Writes the next culprit behind the others; false if there is none. */
        private boolean findCulprit(Records records) {
            int most = records.ruleOf(VOTES_WANTED) - 1;
            boolean any = false;
            for (int c = 0; c < records.stations(); c++) {
                for (int t = 0; t < records.years(); t++) {
                    if (left[c][t] > most) {
                        most = left[c][t];
                        any = true;
                        found[STATION][length] = c;
                        found[YEAR][length] = t;
                    }
                }
            }
            if (any) {
                found[VOTES][length] = most;
                found[SIZE][length] = size(found[STATION][length], found[YEAR][length]);
            }
            return any;
        }

        private int size(int c, int t) {
            long total = 0;
            int voters = 0;
            for (int p = 0; p < pairs; p++) {
                if (isOf(p, c) && open[p][t] == 1) {
                    total += firsts[p] == c ? shifts[p][t] : -shifts[p][t];
                    voters++;
                }
            }
            return roundedMean(total, voters);
        }

        private boolean isOf(int p, int c) {
            return firsts[p] == c || seconds[p] == c;
        }

        private void strikeVotes(Records records, int c, int year) {
            int window = records.ruleOf(WINDOW);
            int first = Math.max(0, year - window);
            int last = Math.min(records.years() - 1, year + window);
            for (int p = 0; p < pairs; p++) {
                for (int t = first; t <= last; t++) {
                    if (isOf(p, c) && open[p][t] == 1) {
                        open[p][t] = 0;
                        left[firsts[p]][t]--;
                        left[seconds[p]][t]--;
                    }
                }
            }
        }
    }

    /** The latest changes; the oldest one gives way when there are too many. */
    private static final class History {
        private final int[][] parts = new int[PARTS][MOST_CHANGES];
        private int oldest;
        private int length;

        void clear() {
            length = 0;
        }

        int length() {
            return length;
        }

        void add(int kind, int place, int year, int number) {
            int slot = slot(length);
            parts[KIND][slot] = kind;
            parts[PLACE][slot] = place;
            parts[WHEN][slot] = year;
            parts[NUMBER][slot] = number;
            if (length < MOST_CHANGES) {
                length++;
            } else {
                oldest = slot(1);
            }
        }

        private int slot(int place) {
            return (oldest + place) % MOST_CHANGES;
        }

        /** A part of the latest change; 0 if there is none. */
        int latest(int part) {
            return length == 0 ? 0 : parts[part][slot(length - 1)];
        }

        void dropLatest() {
            if (length > 0) {
                length--;
            }
        }
    }

    /** The mended culprits. */
    private static final class Ledger {
        private final int[][] columns = new int[COLUMNS][MOST_LEDGER];
        private int length;

        void clear() {
            length = 0;
        }

        int length() {
            return length;
        }

        boolean isFull() {
            return length >= MOST_LEDGER;
        }

        void add(int station, int year, int size) {
            if (isFull()) {
                return;
            }
            columns[STATION][length] = station;
            columns[YEAR][length] = year;
            columns[SHIFT][length] = size;
            length++;
        }

        void dropLast() {
            if (length > 0) {
                length--;
            }
        }

        int property(int k, int what) {
            return columns[what][k];
        }
    }
}
