/** Objects with stations of a text. */
final class Laid {
    private Laid() { }

    static ShiftMender of(String text) {
        ShiftMender m = new ShiftMender();
        write(m, text);
        if (m.lay() < 2) {
            throw new IllegalArgumentException("cannot be laid: " + text);
        }
        return m;
    }

    static void write(ShiftMender m, String text) {
        for (int i = 0; i < text.length(); i++) {
            m.write(text.charAt(i));
        }
    }

    /** Two stations, of which the first one has these values (null: missing) and the second one always 0. */
    static ShiftMender series(int leastRun, int penalty, Integer... values) {
        String zeros = "0000000000000000".substring(0, values.length);
        char years = Character.forDigit(values.length, 36);
        ShiftMender m = of("y" + years + ";s00" + zeros + ";s00" + zeros + ";");
        for (int t = 0; t < values.length; t++) {
            if (values[t] == null) {
                m.lose(0, t);
            } else {
                m.set(0, t, values[t]);
            }
        }
        m.rule(0, leastRun);
        m.penalty(penalty);
        return m;
    }
}
