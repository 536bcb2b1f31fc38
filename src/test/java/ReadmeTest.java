import java.io.IOException;
import java.lang.reflect.Method;
import java.lang.reflect.Modifier;
import java.nio.charset.StandardCharsets;
import java.nio.file.Files;
import java.nio.file.Path;
import java.util.Set;
import java.util.TreeSet;
import java.util.regex.Matcher;
import java.util.regex.Pattern;

/** That the calls which README.md shows answer what it says, and that it tells of each call. */
public final class ReadmeTest {
    private static final Pattern CALL = Pattern.compile("x\\.(\\w+)\\(([^)]*)\\); +// .*: (-?\\d+)");
    private static final int FEWEST = 20;

    private ReadmeTest() {
    }

    public static void main(String[] args) throws IOException {
        String readme = Files.readString(Path.of(System.getProperty("project.root", "."), "README.md"), StandardCharsets.US_ASCII);
        int start = readme.indexOf("```java");
        int end = readme.indexOf("```", start + 3);
        Due.that("a block of calls", start >= 0 && end > start);
        shown(readme.substring(Math.max(start, 0), Math.max(end, 0)));
        told(readme);
        Due.end();
    }

    private static void shown(String block) {
        Run run = new Run("README.md");
        int calls = 0;
        for (String line : block.split("\n")) {
            Matcher m = CALL.matcher(line);
            if (m.matches()) {
                String sign = line.contains("refused:") ? " ! " : " = ";
                run.line("its calls", m.group(1) + " " + m.group(2).replace(",", "") + sign + m.group(3));
                calls++;
            } else {
                Due.that("a call with its answer: " + line, !line.startsWith("x."));
            }
        }
        Due.that("calls that are shown: " + calls, calls >= FEWEST);
    }

    private static void told(String readme) {
        Set<String> words = new TreeSet<>();
        Matcher m = Pattern.compile("\\w+").matcher(readme.substring(Math.max(readme.indexOf("What the calls are for"), 0)));
        while (m.find()) {
            words.add(m.group());
        }
        for (Method call : MountainsInMourning.class.getDeclaredMethods()) {
            if (Modifier.isPublic(call.getModifiers())) {
                Due.that("README.md tells of " + call.getName(), words.contains(call.getName()));
            }
        }
    }
}
