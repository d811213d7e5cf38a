import java.io.IOException;
import java.nio.file.Files;
import java.nio.file.Path;
import java.util.regex.Matcher;
import java.util.regex.Pattern;

/** The three examples as they stand in the document, each on a new object, and the document's constants. */
public final class ExamplesTest {
    private static final Check CHECK = new Check();
    private static final int[] CALLS_OF_EXAMPLES = {16, 16, 16};

    public static void main(String[] args) throws IOException, ReflectiveOperationException {
        constants();
        String document = Files.readString(Path.of("../shared/DOC.md"));
        int from = document.indexOf("\nExamples:");
        String examples = document.substring(from, document.indexOf("\n\n", from)).replaceAll("\\s+", " ");
        String[] parts = examples.split("(?<=\\.) (?=[1-9]\\. )");
        CHECK.due("examples in the document", parts.length - 1, CALLS_OF_EXAMPLES.length);
        for (int i = 0; i < CALLS_OF_EXAMPLES.length; i++) {
            CHECK.due("calls of example " + (i + 1), answer(parts[i + 1]), CALLS_OF_EXAMPLES[i]);
        }
        CHECK.end();
    }

    private static void constants() {
        CHECK.due("BAD", ShiftMender.BAD, -1);
        CHECK.due("NO", ShiftMender.NO, -2);
        CHECK.due("FULL", ShiftMender.FULL, -3);
        CHECK.due("NONE", ShiftMender.NONE, -4);
        CHECK.due("ZERO", ShiftMender.ZERO, 100000);
    }

    /** Asks a new object each call of an example; answers how many there were. */
    private static int answer(String example) throws ReflectiveOperationException {
        ShiftMender m = new ShiftMender();
        int calls = 0;
        Matcher call = Pattern.compile("(\\w+)\\(([^)]*)\\) = (-?\\d+)").matcher(example);
        while (call.find()) {
            String[] numbers = call.group(2).isEmpty() ? new String[0] : call.group(2).split(", ");
            CHECK.due(call.group(), ask(m, call.group(1), numbers), Long.parseLong(call.group(3)));
            calls++;
        }
        return calls;
    }

    private static long ask(ShiftMender m, String name, String[] numbers) throws ReflectiveOperationException {
        Class<?>[] types = new Class<?>[numbers.length];
        Object[] given = new Object[numbers.length];
        for (int i = 0; i < numbers.length; i++) {
            types[i] = int.class;
            given[i] = Integer.valueOf(numbers[i]);
        }
        return ((Number) ShiftMender.class.getMethod(name, types).invoke(m, given)).longValue();
    }
}
