import java.util.ArrayList;
import java.util.List;
import java.util.function.Consumer;
import java.util.function.Supplier;

/** The sentences about culprits: CULPRITS, promises 23 to 27. */
final class CulpritSentences {
    private static final int LEAST = Integer.MIN_VALUE;
    private static final int GREATEST = Integer.MAX_VALUE;

    private final Sentences s;
    private final Check check;
    private final Refused refused;

    CulpritSentences(Sentences s, Check check) {
        this.s = s;
        this.check = check;
        this.refused = new Refused(check);
    }

    void all() {
        firstCulprit();
        nextCulprits();
        sizes();
        mending();
        votes();
        culprit();
        mend();
        mendFullAndNo();
        mends();
        ledger();
    }

    // ---- objects

    /** Sixteen years, a step of 10 up in each of them; ten of the steps are mended, five are left. */
    static ShiftMender fullLedger() {
        ShiftMender m = Laid.of("yg;s00" + "0".repeat(16) + ";s00" + "0".repeat(16) + ";l1110;p01;");
        for (int t = 1; t < 16; t++) {
            m.set(0, t, 10 * t);
        }
        m.mends();
        return m;
    }

    /**
     * Station 0 shifts in year 4; station 1 is different in the years before it. So there are breaks in year 4 for
     * all pairs, and in the first of these years for the pairs of 1.
     */
    private static ShiftMender breakBefore(int gap, int window) {
        String blip = "0".repeat(4 - gap) + "9".repeat(gap) + "0000";
        return Laid.of("y8;s0000009999;s00" + blip + ";s0000000000;l151" + window + ";p10;");
    }

    /** The same, with station 1 different from year 3 on, when station 0 shifts, and as before this many years on. */
    private static ShiftMender breakBehind(int gap, int window) {
        String blip = "999" + "0".repeat(gap) + "9".repeat(5 - gap);
        return Laid.of("y8;s0000099999;s00" + blip + ";s0000000000;l151" + window + ";p10;");
    }

    private static ShiftMender withoutCulprit() {
        return Laid.of("y4;s00....;s00....;");
    }

    /** Against 1 station 0 rises by 5, against 2 it falls by 5. */
    private static ShiftMender sizeZero() {
        return Laid.of("y4;s009999;s009944;s0099ee;l2520;p05;");
    }

    /** Station 0 shifts by this size, from this value on, in year 2. */
    private static ShiftMender shift(int from, int to) {
        ShiftMender m = Laid.of("y4;s000000;s000000;l2110;p00;");
        for (int t = 0; t < 4; t++) {
            m.set(0, t, t < 2 ? from : to);
        }
        return m;
    }

    private void culpritIs(ShiftMender m, int i, int station, int year, int votes, int size) {
        int[] due = {station, year, votes, 100000 + size};
        for (int what = 0; what < 4; what++) {
            check.due("culprit(" + i + ", " + what + ")", m.culprit(i, what), due[what]);
        }
    }

    private void culpritsAre(ShiftMender m, int due) {
        check.due("culprit(-1, 0)", m.culprit(-1, 0), due);
        check.due("culprit(" + due + ", 0)", m.culprit(due, 0), -4);
    }

    private void valuesAre(ShiftMender m, int c, int... due) {
        for (int t = 0; t < due.length; t++) {
            check.due("value(" + c + ", " + t + ")", m.value(c, t), due[t]);
        }
    }

    // ---- CULPRITS

    private void firstCulprit() {
        s.under("CULPRITS");
        s.test("Each break of the best segmentation of the series of a pair (with the smaller number as u) is a vote "
            + "for both stations in this year", () -> {
                // in a line: 1 is a pair with 0 and 2, and 2 with 3; only station 1 shifts, in year 3
                ShiftMender m = Laid.of("y6;s00000000;s10000999;s30000000;s70000000;l2110;p05;");
                int[] votes = {1, 2, 1, 0};
                for (int c = 0; c < 4; c++) {
                    for (int t = 0; t < 6; t++) {
                        check.due("votes(" + c + ", " + t + ")", m.votes(c, t), t == 3 ? votes[c] : 0);
                    }
                }
                m.rule(1, 3);
                check.due("all are pairs: votes(1, 3)", m.votes(1, 3), 3);
                check.due("all are pairs: votes(3, 3)", m.votes(3, 3), 1);
                // several breaks of one pair, in the years of the entries
                ShiftMender two = Laid.of("y8;s0000.99.00;s0000000000;l2110;p05;");
                int[] years = {0, 0, 0, 1, 0, 0, 1, 0};
                for (int t = 0; t < 8; t++) {
                    check.due("votes(0, " + t + ")", two.votes(0, t), years[t]);
                    check.due("votes(1, " + t + ")", two.votes(1, t), years[t]);
                }
            });
        s.test("The first culprit is the station and year with the most votes", () -> {
            // three votes come before two, whatever the stations and years are
            ShiftMender m = Laid.of("y6;s00000000;s00000099;s000000..;s00009999;l2520;p05;");
            check.due("votes(1, 4)", m.votes(1, 4), 2);
            check.due("votes(3, 2)", m.votes(3, 2), 3);
            culpritIs(m, 0, 3, 2, 3, 9);
            culpritIs(m, 1, 1, 4, 2, 9);
            culpritsAre(m, 2);
        });
        s.test("if there are at least T", () -> {
            for (int votes = 1; votes <= 5; votes++) {
                for (int wanted = 1; wanted <= 5; wanted++) {
                    ShiftMender m = Laid.of("y6;s00000999;" + "s00000000;".repeat(votes) + "l25" + wanted + "0;p05;");
                    check.due("votes(0, 3)", m.votes(0, 3), votes);
                    culpritsAre(m, votes >= wanted ? 1 : 0);
                }
            }
        });
        s.test("of several the smallest station", () -> {
            // 1 shifts in year 4, 2 in year 2; each of them has two votes, and more than any other
            ShiftMender m = Laid.of("y6;s00000000;s00000099;s00009999;l2520;p05;");
            culpritIs(m, 0, 1, 4, 2, 9);
            culpritIs(m, 1, 2, 2, 2, 9);
            culpritsAre(m, 2);
            // one pair alone: the vote is for both
            culpritIs(Laid.of("y4;s000099;s000000;l2110;p05;"), 0, 0, 2, 1, 9);
            culpritIs(Laid.of("y4;s000000;s000099;l2110;p05;"), 0, 0, 2, 1, -9);
        });
        s.test("then the earliest year", () -> {
            ShiftMender m = Laid.of("y6;s00000000;s000099ii;s00000000;l2520;p05;");
            culpritIs(m, 0, 1, 2, 2, 9);
            culpritIs(m, 1, 1, 4, 2, 9);
            culpritsAre(m, 2);
            ShiftMender all = fullLedger();
            for (int i = 0; i < 5; i++) {
                culpritIs(all, i, 0, 11 + i, 1, 10);
            }
            culpritsAre(all, 5);
        });
    }

    private void nextCulprits() {
        s.test("The breaks of all pairs of this station that are at most W years from its year are no votes any more",
            () -> {
                for (int window = 0; window <= 2; window++) {
                    for (int gap = 1; gap <= 3; gap++) {
                        ShiftMender before = breakBefore(gap, window);
                        check.due("votes(0, 4)", before.votes(0, 4), 2);
                        check.due("votes(0, 4 - gap)", before.votes(0, 4 - gap), 1);
                        check.due("before: the first one", before.culprit(0, 0) * 100 + before.culprit(0, 1), 4);
                        check.due("before: station of the next one", before.culprit(1, 0), 1);
                        check.due("before: its year", before.culprit(1, 1), 4 - gap);
                        check.due("gap " + gap + ", W = " + window + ": its votes", before.culprit(1, 2),
                            gap <= window ? 1 : 2);
                        ShiftMender behind = breakBehind(gap, window);
                        check.due("votes(0, 3)", behind.votes(0, 3), 2);
                        check.due("votes(0, 3 + gap)", behind.votes(0, 3 + gap), 1);
                        check.due("behind: the first one", behind.culprit(0, 0) * 100 + behind.culprit(0, 1), 3);
                        check.due("behind: station of the next one", behind.culprit(1, 0), 1);
                        check.due("gap " + gap + ", W = " + window + ": its year", behind.culprit(1, 1),
                            gap <= window ? 3 : 3 + gap);
                    }
                }
                // a window that reaches beyond the first or the last year
                for (int window = 0; window <= 2; window++) {
                    ShiftMender first = Laid.of("y4;s000999;s000000;l151" + window + ";p10;");
                    culpritIs(first, 0, 0, 1, 1, 9);
                    culpritsAre(first, 1);
                    ShiftMender last = Laid.of("yg;s00" + "0".repeat(15) + "9;s00" + "0".repeat(16) + ";l151" + window
                        + ";p10;");
                    culpritIs(last, 0, 0, 15, 1, 9);
                    culpritsAre(last, 1);
                }
            });
        s.test("for neither station of the pair", () -> {
            ShiftMender m = Laid.of("y6;s00000999;s00000000;s00000000;l2510;p05;");
            check.due("votes(1, 3)", m.votes(1, 3), 1);
            culpritIs(m, 0, 0, 3, 2, 9);
            culpritsAre(m, 1);
            ShiftMender second = Laid.of("y6;s00000000;s00000999;s00000000;l2510;p05;");
            culpritIs(second, 0, 1, 3, 2, 9);
            culpritsAre(second, 1);
        });
        s.test("The next culprit is determined likewise by the votes that are left", () -> {
            ShiftMender m = breakBefore(1, 0);
            culpritIs(m, 1, 1, 3, 2, 9);
            culpritIs(m, 2, 1, 4, 1, -9);
            // all pairs in all years: five votes for each station, and one fewer for each one that is behind it
            int[] sizes = {-3, -2, -2, -1, -1};
            for (int window = 0; window <= 2; window++) {
                ShiftMender all = steps(window);
                int inAll = (15 + window) / (window + 1);
                culpritsAre(all, 5 * inAll);
                for (int i = 0; i < 5 * inAll; i += 2) {
                    int c = i / inAll;
                    culpritIs(all, i, c, 1 + i % inAll * (window + 1), 5 - c, sizes[c]);
                }
            }
        });
        s.test("and so on, until there is none with T votes", () -> {
            ShiftMender m = breakBefore(1, 0);
            culpritsAre(m, 3);
            m.rule(2, 2);
            culpritsAre(m, 2);
            m.rule(2, 3);
            culpritsAre(m, 0);
        });
    }

    /** Six stations, the values being station times year: all 15 series have a break in each year but the first. */
    private static ShiftMender steps(int window) {
        ShiftMender m = Laid.of(TextSentences.empty(16, 6) + "l151" + window + ";p00;");
        for (int c = 0; c < 6; c++) {
            for (int t = 0; t < 16; t++) {
                m.set(c, t, c * t);
            }
        }
        return m;
    }

    private void sizes() {
        s.test("whose best segmentation has a break in year t that was still a vote when the culprit was found", () -> {
            // against 0, station 1 rises by 8 in year 3, against 2 by 6; with W = 1 the first one is no vote any more
            String text = "y8;s0000009999;s0030090000;s000..00000;p10;";
            ShiftMender both = Laid.of(text + "l1510;");
            culpritIs(both, 0, 0, 4, 2, 14);
            culpritIs(both, 1, 1, 3, 2, 7);
            ShiftMender one = Laid.of(text + "l1511;");
            culpritIs(one, 0, 0, 4, 2, 14);
            culpritIs(one, 1, 1, 3, 1, 6);
            // a pair without a break in this year does not count: here that of 1 and 2, which has no entries
            ShiftMender without = Laid.of("y4;s000000;s000099;s00....;l2510;p05;");
            culpritIs(without, 0, 0, 2, 1, -9);
        });
        s.test("the mean of the run that begins in year t minus the mean of the run before it", () -> {
            ShiftMender m = Laid.of("yc;s00222555111777;s00000000000000;l2110;p02;");
            int[] sizes = {3, -4, 6};
            for (int i = 0; i < 3; i++) {
                culpritIs(m, i, 0, 3 + 3 * i, 1, sizes[i]);
            }
            culpritsAre(m, 3);
        });
        s.test("in the series of c and the other station", () -> {
            // station 1 is the greater one of one pair and the smaller one of the other; it rises in both
            ShiftMender m = Laid.of("y4;s000000;s000099;s000000;l2520;p05;");
            culpritIs(m, 0, 1, 2, 2, 9);
            ShiftMender last = Laid.of("y4;s000000;s000000;s009900;l2520;p05;");
            culpritIs(last, 0, 2, 2, 2, -9);
        });
        s.test("The size is the mean of these differences", () -> {
            // of 0 and 1 it is 1, of 0 and 2 it is 2; 3 has no entry in common with 0 in the years before
            ShiftMender m = Laid.of("y8;s0000003333;s0000002222;s0000001111;s0033333333;l4520;p00;");
            for (int t = 0; t < 4; t++) {
                m.lose(3, t);
            }
            culpritIs(m, 0, 0, 4, 2, 2);
            // 1 1/2, 1 1/2 and 1: none of them is rounded before the mean, 1 1/3, is
            ShiftMender three = Laid.of("y4;s000012;s000000;s000000;s000001;l2520;p00;");
            culpritIs(three, 0, 0, 2, 3, 1);
        });
        s.test("rounded to the nearest integer, halves up (-1.5 to -1)", () -> {
            int[][] rows = {{1, 2, 2}, {-1, -2, -1}, {2, 3, 3}, {-2, -3, -2}, {0, 1, 1}, {0, -1, 0}, {1, 1, 1},
                {-1, -1, -1}, {9998, 9999, 9999}, {-9998, -9999, -9998}};
            for (int[] row : rows) {
                ShiftMender m = Laid.series(2, 0, 0, 0, row[0], row[1]);
                m.rule(2, 1);
                check.due("size of 0 0 " + row[0] + " " + row[1], m.culprit(0, 3), 100000 + row[2]);
            }
            int[][] thirds = {{7, 7, 8, 7}, {7, 8, 8, 8}, {-7, -7, -8, -7}, {-7, -8, -8, -8}};
            for (int[] row : thirds) {
                ShiftMender m = Laid.series(2, 0, 0, 0, row[0], row[1], row[2]);
                m.rule(2, 1);
                check.due("size to " + row[0] + " " + row[1] + " " + row[2], m.culprit(0, 3), 100000 + row[3]);
            }
        });
    }

    private void mending() {
        s.test("all values of c in the years before t become greater by its size", () -> {
            ShiftMender m = Laid.of("y6;s00111111;s000.0999;s00222222;l2320;p05;");
            culpritIs(m, 0, 1, 3, 2, 9);
            m.mend(0);
            valuesAre(m, 1, 100009, -4, 100009, 100009, 100009, 100009);
            valuesAre(m, 0, 100001, 100001, 100001, 100001, 100001, 100001);
            valuesAre(m, 2, 100002, 100002, 100002, 100002, 100002, 100002);
            ShiftMender less = shift(5, -5);
            less.mend(0);
            valuesAre(less, 0, 99995, 99995, 99995, 99995);
            // a break in the first year that there can be one, and in the last year that there is
            ShiftMender first = Laid.of("y4;s000999;s000000;l1110;p10;");
            first.mend(0);
            valuesAre(first, 0, 100009, 100009, 100009, 100009);
            ShiftMender last = Laid.of("yg;s00" + "0".repeat(15) + "9;s00" + "0".repeat(16) + ";l1110;p10;");
            last.mend(0);
            for (int t = 0; t < 16; t++) {
                check.due("value(0, " + t + ")", last.value(0, t), 100009);
            }
        });
        s.test("it is then recorded in the ledger, which has at most 10 entries", () -> {
            ShiftMender m = fullLedger();
            check.due("ledger(-1, 0)", m.ledger(-1, 0), 10);
            for (int k = 0; k < 10; k++) {
                check.due("ledger(" + k + ", 0)", m.ledger(k, 0), 0);
                check.due("ledger(" + k + ", 1)", m.ledger(k, 1), k + 1);
                check.due("ledger(" + k + ", 2)", m.ledger(k, 2), 100010);
            }
            check.due("one more", m.mend(0), -3);
            m.undo();
            check.due("the tenth one again", m.mend(0), 10);
            check.due("one more again", m.mend(0), -3);
        });
        s.test("After each change everything is determined anew", () -> {
            List<Consumer<ShiftMender>> changes = List.of(m -> m.set(1, 0, 20), m -> m.lose(1, 9), m -> m.make(2, 3),
                m -> m.penalty(0), m -> m.penalty(99999), m -> m.rule(0, 4), m -> m.rule(1, 1), m -> m.rule(2, 4),
                m -> m.rule(2, 5), m -> m.rule(3, 2), m -> m.mend(0), m -> m.mends(), m -> m.day(100, 20),
                m -> m.undo(), ShiftMender::lay);
            for (int i = 0; i < changes.size(); i++) {
                ShiftMender asked = Refused.busy();
                ShiftMender notAsked = Refused.busy();
                List<Long> before = new ArrayList<>(Whole.of(asked));
                changes.get(i).accept(asked);
                changes.get(i).accept(notAsked);
                List<Long> after = Whole.of(asked);
                check.holds("change " + i + " is seen at once", after.equals(Whole.of(notAsked)));
                check.holds("change " + i + " is one", !after.equals(before));
            }
        });
    }

    // ---- promises 23 to 27

    private void votes() {
        s.under("Promise 23");
        s.test("Returns the votes for a station in a year, before any culprit is found", () -> {
            refused.due("votes(1, 9) changes nothing", 4, m -> m.votes(1, 9), ShiftMender::new);
            ShiftMender m = breakBefore(1, 2);
            int[] due = {1, 2, 1};
            for (int c = 0; c < 3; c++) {
                check.due("votes(" + c + ", 3)", m.votes(c, 3), due[c]);
            }
            m.culprit(-1, 0);
            m.rule(2, 5);
            m.rule(3, 0);
            for (int c = 0; c < 3; c++) {
                check.due("votes(" + c + ", 3), whatever T and W are", m.votes(c, 3), due[c]);
            }
        });
        s.test("`c`: number of the station", () -> {
            for (int n = 2; n <= 6; n++) {
                ShiftMender m = Laid.of("y4;" + "s000000;".repeat(n));
                check.due("votes(-1, 0)", m.votes(-1, 0), -1);
                check.due("votes(0, 0)", m.votes(0, 0), 0);
                check.due("votes of the last one", m.votes(n - 1, 0), 0);
                check.due("votes behind the last one", m.votes(n, 0), -1);
            }
        });
        s.test("`t`: the year", () -> {
            for (int years = 4; years <= 16; years++) {
                ShiftMender m = Laid.of(TextSentences.empty(years, 2));
                check.due("votes(0, -1)", m.votes(0, -1), -1);
                check.due("votes(0, 0)", m.votes(0, 0), 0);
                check.due("votes in the last year", m.votes(0, years - 1), 0);
                check.due("votes behind the last year", m.votes(0, years), -1);
            }
        });
        s.test("Returns the number of votes", () -> {
            ShiftMender m = steps(0);
            for (int c = 0; c < 6; c++) {
                for (int t = 0; t < 16; t++) {
                    check.due("votes(" + c + ", " + t + ")", m.votes(c, t), t == 0 ? 0 : 5);
                }
            }
        });
        s.test("BAD if there is no such station or year", () -> {
            for (Supplier<ShiftMender> object : Refused.objects()) {
                for (int[] p : ValuesSentences.badPlaces(object.get())) {
                    refused.due("votes(" + p[0] + ", " + p[1] + ")", -1, m -> m.votes(p[0], p[1]), object);
                }
            }
        });
    }

    private void culprit() {
        s.under("Promise 24");
        s.test("Returns a property of a culprit.", () -> {
            refused.due("culprit(0, 3) changes nothing", 100003, m -> m.culprit(0, 3), ShiftMender::new);
        });
        s.test("`i`: -1 for the number of culprits, otherwise an index in the order in which they are found", () -> {
            int[] due = {-1, 2, 1, 0, -4};
            for (int i = -2; i <= 2; i++) {
                check.due("culprit(" + i + ", 0)", new ShiftMender().culprit(i, 0), due[i + 2]);
            }
        });
        s.test("`what`: 0: its station; 1: its year; 2: its votes when it was found; 3: its size", () -> {
            int[][] due = {{-1, 2, 2, 2, 2, -1}, {-1, 1, 9, 4, 100003, -1}, {-1, 0, 6, 3, 100006, -1},
                {-1, -4, -4, -4, -4, -1}};
            for (int i = -1; i <= 2; i++) {
                for (int what = -1; what <= 4; what++) {
                    check.due("culprit(" + i + ", " + what + ")", new ShiftMender().culprit(i, what),
                        due[i + 1][what + 1]);
                }
            }
            // of these two votes one is no vote any more when the culprit is found
            check.due("votes(1, 4)", breakBefore(1, 0).votes(1, 4), 2);
            check.due("its votes when it was found", breakBefore(1, 0).culprit(2, 2), 1);
        });
        s.test("Returns the number of culprits, or the property (the size plus ZERO)", () -> {
            check.due("no culprits", Laid.of(TextSentences.empty(4, 2)).culprit(-1, 0), 0);
            check.due("seventy-five culprits", steps(0).culprit(-1, 0), 75);
            check.due("the last one of them", steps(0).culprit(74, 1), 15);
            check.due("the greatest size", shiftBetween(-9999, 9999).culprit(0, 3), 100000 + 39996);
            check.due("the least size", shiftBetween(9999, -9999).culprit(0, 3), 100000 - 39996);
            check.due("a size of 0", sizeZero().culprit(0, 3), 100000);
        });
        s.test("NONE if there are not so many", () -> {
            for (int what = 0; what < 4; what++) {
                int k = what;
                for (int i : new int[] {2, 3, 95, 96, 97, GREATEST}) {
                    refused.due("culprit(" + i + ", " + k + ")", -4, m -> m.culprit(i, k), ShiftMender::new);
                }
                check.due("of 75", steps(0).culprit(75, what), -4);
                check.due("of none", Laid.of(TextSentences.empty(4, 2)).culprit(0, what), -4);
            }
        });
        s.test("BAD if i is less than -1, or what is out of range", () -> {
            for (int[] b : new int[][] {{-2, 0}, {LEAST, 0}, {0, -1}, {0, 4}, {-1, -1}, {-1, 4}, {99, 4}, {-2, 4},
                {0, LEAST}, {0, GREATEST}, {GREATEST, GREATEST}}) {
                refused.due("culprit(" + b[0] + ", " + b[1] + ")", -1, m -> m.culprit(b[0], b[1]), Refused.objects());
            }
        });
    }

    /** Station 0 goes from one value to the other one, and station 1 the other way. */
    private static ShiftMender shiftBetween(int from, int to) {
        ShiftMender m = shift(from, to);
        for (int t = 0; t < 4; t++) {
            m.set(1, t, t < 2 ? to : from);
        }
        return m;
    }

    private void mend() {
        s.under("Promise 25");
        s.test("Mends a culprit.", () -> {
            ShiftMender m = new ShiftMender();
            m.mend(1);
            check.due("the station", m.ledger(0, 0), 0);
            check.due("the year", m.ledger(0, 1), 6);
            check.due("the size", m.ledger(0, 2), 100006);
            check.due("value(0, 5)", m.value(0, 5), 100013);
            check.due("value(0, 6)", m.value(0, 6), 100012);
            check.due("count(9)", m.count(9), 1);
        });
        s.test("`i`: index of the culprit", () -> {
            int[] due = {-1, 1, 1, -4};
            for (int i = -1; i <= 2; i++) {
                check.due("mend(" + i + ")", new ShiftMender().mend(i), due[i + 1]);
            }
            check.due("the last of 75", steps(0).mend(74), 1);
            check.due("behind the last of 75", steps(0).mend(75), -4);
        });
        s.test("Returns the number of entries of the ledger then", () -> {
            ShiftMender m = shift(0, 0);
            for (int n = 1; n <= 10; n++) {
                m.set(0, 2, 10 * n);
                m.set(0, 3, 10 * n);
                check.due("mend(0)", m.mend(0), n);
                check.due("ledger(-1, 0)", m.ledger(-1, 0), n);
            }
        });
        s.test("in this order: BAD if i is negative", () -> {
            for (int i : new int[] {-1, -2, LEAST}) {
                refused.due("mend(" + i + ")", -1, m -> m.mend(i), Refused.objects());
                refused.due("mend(" + i + ") without a culprit", -1, m -> m.mend(i), CulpritSentences::withoutCulprit);
                refused.due("mend(" + i + ") when the ledger is full", -1, m -> m.mend(i),
                    CulpritSentences::fullLedger);
            }
        });
        s.test("NONE if there are not so many culprits", () -> {
            for (int i : new int[] {2, 3, 96, GREATEST}) {
                refused.due("mend(" + i + ")", -4, m -> m.mend(i), ShiftMender::new);
            }
            refused.due("mend(0) without a culprit", -4, m -> m.mend(0), CulpritSentences::withoutCulprit);
            for (int i : new int[] {5, 6, GREATEST}) {
                refused.due("mend(" + i + ") when the ledger is full", -4, m -> m.mend(i),
                    CulpritSentences::fullLedger);
            }
        });
    }

    private void mendFullAndNo() {
        s.test("FULL if the ledger has 10 entries", () -> {
            refused.due("mend(0)", -3, m -> m.mend(0), CulpritSentences::fullLedger);
            refused.due("mend(4)", -3, m -> m.mend(4), CulpritSentences::fullLedger);
            ShiftMender nine = fullLedger();
            nine.undo();
            check.due("mend(0) with nine entries", nine.mend(0), 10);
            // FULL comes before NO
            refused.due("mend(0) of a size of 0", -3, m -> m.mend(0), () -> {
                ShiftMender m = fullLedger();
                m.penalty(0);
                m.rule(0, 2);
                for (int t = 0; t < 16; t++) {
                    m.set(0, t, t < 15 ? 0 : -1);
                }
                return m;
            });
        });
        s.test("NO if the size is 0", () -> {
            refused.due("mend(0) of a size of 0", -2, m -> m.mend(0), CulpritSentences::sizeZero);
            refused.due("mend(0) of 0 0 0 -1", -2, m -> m.mend(0), () -> {
                ShiftMender m = Laid.series(2, 0, 0, 0, 0, -1);
                m.rule(2, 1);
                return m;
            });
            check.due("a size of 1", shift(0, 1).mend(0), 1);
            check.due("a size of -1", shift(0, -1).mend(0), 1);
        });
        s.test("or a value would not be -9999 to 9999 any more", () -> {
            for (int sign : new int[] {1, -1}) {
                check.due("to 9999 times " + sign, shift(0, 9999 * sign).mend(0), 1);
                check.due("from one end to the other", shift(-9999 * sign, 9999 * sign).mend(0), 1);
                // the size is 5 (or -5), and one of the values before is 9995 (or -9995)
                for (int year = 0; year < 2; year++) {
                    int t = year;
                    refused.due("one too far", -2, m -> m.mend(0), () -> raised(t, 9995 * sign, 5 * sign));
                    ShiftMender just = raised(t, 9994 * sign, 5 * sign);
                    check.due("just as far", just.mend(0), 1);
                    check.due("value(0, " + t + ")", just.value(0, t), 100000 + 9999 * sign);
                }
                // what is missing, or not before the year, does not matter
                ShiftMender missing = raised(1, 9995 * sign, 5 * sign);
                missing.lose(0, 1);
                missing.rule(0, 1);
                check.due("missing", missing.mend(0), 1);
                check.due("value(0, 1)", missing.value(0, 1), -4);
                ShiftMender later = shift(0, 9999 * sign);
                later.set(1, 2, 9994 * sign);
                later.set(1, 3, 9994 * sign);
                check.due("the year itself, and those behind it", later.mend(0), 1);
                check.due("value(0, 1)", later.value(0, 1), 100000 + 5 * sign);
                check.due("value(0, 2)", later.value(0, 2), 100000 + 9999 * sign);
            }
        });
    }

    private static ShiftMender mendedOnce(ShiftMender m) {
        m.mend(0);
        return m;
    }

    /** Both stations have this value in a year before year 2; station 0 shifts by the size in year 2. */
    private static ShiftMender raised(int year, int value, int size) {
        ShiftMender m = shift(0, size);
        m.set(0, year, value);
        m.set(1, year, value);
        return m;
    }

    private void mends() {
        s.under("Promise 26");
        s.test("Mends the first culprit again and again, each time anew by the changed values", () -> {
            ShiftMender m = new ShiftMender();
            ShiftMender one = new ShiftMender();
            m.mends();
            one.mend(0);
            one.mend(0);
            check.holds("as two calls of mend(0)", Whole.of(m).equals(Whole.of(one)));
            // each step of the stairs has a size of 10 only because the one before it has been mended
            ShiftMender stairs = fullLedger();
            for (int k = 0; k < 10; k++) {
                check.due("size of entry " + k, stairs.ledger(k, 2), 100010);
            }
        });
        s.test("until there is no culprit", () -> {
            refused.due("mends() without a culprit", 0, ShiftMender::mends, CulpritSentences::withoutCulprit);
            refused.due("mends() once more", 0, ShiftMender::mends, () -> {
                ShiftMender m = new ShiftMender();
                m.mends();
                return m;
            });
            ShiftMender m = new ShiftMender();
            check.due("mends()", m.mends(), 2);
            check.due("culprit(-1, 0)", m.culprit(-1, 0), 0);
        });
        s.test("the first one cannot be mended", () -> {
            refused.due("mends(): FULL", 0, ShiftMender::mends, CulpritSentences::fullLedger);
            refused.due("mends(): a size of 0", 0, ShiftMender::mends, CulpritSentences::sizeZero);
            refused.due("mends(): out of range", 0, ShiftMender::mends, () -> raised(0, 9995, 5));
            // the second one could be mended
            ShiftMender m = sizeZero();
            m.rule(2, 1);
            check.due("mends()", m.mends(), 0);
            check.due("mend(1)", m.mend(1), 1);
        });
        s.test("or 12 were mended", () -> {
            // the ledger is full before: with room for so many, n are mended
            for (int room = 0; room <= 8; room++) {
                ShiftMender m = fullLedger();
                for (int i = 0; i < room; i++) {
                    m.undo();
                }
                check.due("mends() with room for " + room, m.mends(), room);
                check.due("ledger(-1, 0)", m.ledger(-1, 0), 10);
                check.due("mends() again", m.mends(), 0);
            }
        });
        s.test("Returns how many were mended", () -> {
            check.due("none", withoutCulprit().mends(), 0);
            check.due("one", shift(0, 9).mends(), 1);
            check.due("two", new ShiftMender().mends(), 2);
            ShiftMender m = Laid.of("yg;s00" + "0".repeat(16) + ";s00" + "0".repeat(16) + ";l1110;p01;");
            for (int t = 1; t < 16; t++) {
                m.set(0, t, 10 * t);
            }
            check.due("ten", m.mends(), 10);
            check.due("count(9)", m.count(9), 8);
        });
    }

    private void ledger() {
        s.under("Promise 27");
        s.test("Returns a property of an entry of the ledger.", () -> {
            refused.due("ledger(9, 2) changes nothing", 100010, m -> m.ledger(9, 2), CulpritSentences::fullLedger);
        });
        s.test("`k`: -1 for the number of entries, otherwise an index, 0 for the oldest one", () -> {
            int[] due = {-1, 2, 9, 6, -4};
            for (int k = -2; k <= 2; k++) {
                check.due("ledger(" + k + ", 1)", Refused.busy().ledger(k, 1), due[k + 2]);
            }
        });
        s.test("`what`: 0: the station; 1: the year; 2: the size", () -> {
            int[][] due = {{-1, 2, 2, 2, -1}, {-1, 1, 9, 100003, -1}, {-1, 0, 6, 100006, -1}, {-1, -4, -4, -4, -1}};
            for (int k = -1; k <= 2; k++) {
                for (int what = -1; what <= 3; what++) {
                    check.due("ledger(" + k + ", " + what + ")", Refused.busy().ledger(k, what),
                        due[k + 1][what + 1]);
                }
            }
        });
        s.test("Returns the number of entries, or the property (the size plus ZERO)", () -> {
            for (int what = 0; what < 3; what++) {
                check.due("of an empty one", new ShiftMender().ledger(-1, what), 0);
                check.due("of a full one", fullLedger().ledger(-1, what), 10);
            }
            check.due("the greatest size", mendedOnce(shift(-9999, 9999)).ledger(0, 2), 119998);
            check.due("the least size", mendedOnce(shift(9999, -9999)).ledger(0, 2), 80002);
        });
        s.test("NONE if there are not so many", () -> {
            for (int what = 0; what < 3; what++) {
                int k = what;
                refused.due("of an empty one", -4, m -> m.ledger(0, k), ShiftMender::new);
                for (int i : new int[] {10, 11, 12, GREATEST}) {
                    refused.due("ledger(" + i + ", ..)", -4, m -> m.ledger(i, k), CulpritSentences::fullLedger);
                }
                check.due("the tenth one", fullLedger().ledger(9, what), List.of(0, 10, 100010).get(what));
            }
        });
        s.test("BAD if k is less than -1, or what is out of range", () -> {
            for (int[] b : new int[][] {{-2, 0}, {LEAST, 0}, {0, -1}, {0, 3}, {-1, -1}, {-1, 3}, {99, 3}, {-2, 3},
                {0, LEAST}, {0, GREATEST}, {GREATEST, GREATEST}}) {
                refused.due("ledger(" + b[0] + ", " + b[1] + ")", -1, m -> m.ledger(b[0], b[1]), Refused.objects());
                refused.due("ledger(" + b[0] + ", " + b[1] + ")", -1, m -> m.ledger(b[0], b[1]),
                    CulpritSentences::fullLedger);
            }
        });
    }
}
