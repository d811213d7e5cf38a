import java.io.IOException;
import java.nio.file.Files;
import java.nio.file.Path;
import java.util.Comparator;
import java.util.Set;
import java.util.TreeSet;
import java.util.regex.Matcher;
import java.util.regex.Pattern;
import java.util.stream.Stream;

/** README.md's example, saved and run with the commands that stand there, prints what stands there. */
public final class ReadmeTest {
    private static final Check CHECK = new Check();
    private static final Path PROGRAM = Path.of("src/main/java/ShiftMender.java");

    public static void main(String[] args) throws IOException, InterruptedException {
        String readme = Files.readString(Path.of("README.md"));
        Path project = Files.createTempDirectory("readme");
        try {
            Path example = Path.of(found("save this in it as `([^`]+)`", readme));
            save(project.resolve(example), block("java", readme));
            save(project.resolve(PROGRAM), Files.readString(PROGRAM));
            String printed = run(project, block("sh", readme));
            String due = block("text", readme);
            CHECK.holds("the example prints what stands there, not:\n" + printed, printed.equals(due));
        } finally {
            remove(project);
        }
        eachCallIsNamed(readme);
        CHECK.end();
    }

    private static void save(Path file, String text) throws IOException {
        Files.createDirectories(file.getParent());
        Files.writeString(file, text);
    }

    private static void remove(Path project) throws IOException {
        try (Stream<Path> files = Files.walk(project)) {
            for (Path file : files.sorted(Comparator.reverseOrder()).toList()) {
                Files.delete(file);
            }
        }
    }

    private static String run(Path project, String commands) throws IOException, InterruptedException {
        Process run = new ProcessBuilder("sh", "-e", "-c", commands)
            .directory(project.toFile()).redirectErrorStream(true).start();
        String printed = new String(run.getInputStream().readAllBytes());
        CHECK.due("the commands end with", run.waitFor(), 0);
        return printed;
    }

    private static String found(String form, String text) {
        Matcher m = Pattern.compile(form, Pattern.DOTALL).matcher(text);
        boolean found = m.find();
        CHECK.holds("README.md has " + form, found);
        return found ? m.group(1) : "nothing";
    }

    /** The first block of this kind. */
    private static String block(String kind, String readme) {
        return found("```" + kind + "\n(.*?)```", readme);
    }

    private static void eachCallIsNamed(String readme) {
        String table = found("### The calls\n\n(.*?)\n\n", readme);
        Set<String> missing = new TreeSet<>();
        for (var method : ShiftMender.class.getDeclaredMethods()) {
            boolean seen = java.lang.reflect.Modifier.isPublic(method.getModifiers());
            if (seen && !table.contains("`" + method.getName() + "`")) {
                missing.add(method.getName());
            }
        }
        CHECK.holds("README.md names each call, but not " + missing, missing.isEmpty());
    }
}
