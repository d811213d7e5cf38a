import java.util.ArrayList;
import java.util.List;

/** All that can be asked of an object without a change, in fewer than 400 calls. */
final class Whole {
    private static final int CULPRITS_LOOKED_AT = 12;

    private Whole() { }

    static List<Long> of(ShiftMender m) {
        List<Long> answers = new ArrayList<>();
        for (int what = 0; what <= 10; what++) {
            answers.add((long) m.count(what));
        }
        answers.add((long) m.fault());
        stations(m, answers);
        int entries = m.ledger(-1, 0);
        for (int k = -1; k <= entries; k++) {
            for (int what = 0; what < 3; what++) {
                answers.add((long) m.ledger(k, what));
            }
        }
        int culprits = Math.min(m.culprit(-1, 0), CULPRITS_LOOKED_AT);
        for (int i = -1; i < culprits; i++) {
            for (int what = 0; what < 4; what++) {
                answers.add((long) m.culprit(i, what));
            }
        }
        return answers;
    }

    private static void stations(ShiftMender m, List<Long> answers) {
        int stations = m.count(0);
        int years = m.count(1);
        for (int c = 0; c < stations; c++) {
            answers.add((long) m.rise(c));
            answers.add((long) m.nearest(c, 0));
            answers.add((long) m.nearest(c, stations - 2));
            for (int t = 0; t < years; t++) {
                answers.add((long) m.value(c, t));
                answers.add((long) m.votes(c, t));
            }
            for (int v = c + 1; v < stations; v++) {
                answers.add((long) m.pair(c, v));
                answers.add(m.cost(c, v));
            }
        }
    }
}
