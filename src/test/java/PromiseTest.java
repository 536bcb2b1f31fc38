import java.io.IOException;
import java.nio.charset.StandardCharsets;
import java.nio.file.Files;
import java.nio.file.Path;
import java.util.List;
import java.util.TreeSet;
import java.util.stream.Collectors;
import java.util.stream.Stream;

/**
 * The runs under src/test/promises. There a line that begins with a quotation mark quotes a sentence of the document
 * and begins a run on a new object, which holds the class to that sentence; README.md tells the rest of the form.
 */
public final class PromiseTest {
    private static final int PROMISES = 45;

    private PromiseTest() {
    }

    public static void main(String[] args) throws IOException {
        TreeSet<String> seen = new TreeSet<>();
        for (Path file : files()) {
            runs(file, seen);
        }
        for (int promise = 1; promise <= PROMISES; promise++) {
            Due.that("runs for promise " + promise, seen.contains("promise " + promise));
        }
        Due.end();
    }

    static List<Path> files() throws IOException {
        Path runs = Path.of(System.getProperty("project.root", "."), "src", "test", "promises");
        try (Stream<Path> files = Files.list(runs)) {
            return files.filter(f -> f.toString().endsWith(".txt")).sorted().collect(Collectors.toList());
        }
    }

    private static void runs(Path file, TreeSet<String> seen) throws IOException {
        String of = "";
        Run run = null;
        int number = 0;
        for (String line : Files.readAllLines(file, StandardCharsets.US_ASCII)) {
            number++;
            if (line.startsWith("of ")) {
                of = line.substring(3);
                run = null;
            } else if (line.startsWith("\"")) {
                run = new Run(of + ", " + line);
                seen.add(of);
            } else if (!line.isBlank() && !line.startsWith("#")) {
                if (run == null) {
                    throw new IOException(file + " " + number + ": a call ahead of a sentence");
                }
                run.line(file.getFileName() + " " + number, line);
            }
        }
    }
}
