import java.io.IOException;
import java.nio.charset.StandardCharsets;
import java.nio.file.Files;
import java.nio.file.Path;
import java.util.ArrayList;
import java.util.List;
import java.util.regex.Matcher;
import java.util.regex.Pattern;

/**
 * That the quotes of src/test/promises stand in the document, and that each word of it from "What it is" to the last
 * promise is quoted by some run; that each refusal a promise names is looked at by a run of that promise. A document that was
 * changed behind the tests is no fault of the class: so what is amiss is only told, and fails with -Dstrict=true alone.
 */
public final class DocumentTest {
    private static final Pattern HEAD = Pattern.compile("## Promise (\\d+): (A new object|\\w+)");
    private static final Pattern SIGNATURE = Pattern.compile("`[^`]*`: ");
    /** LanguageTest looks it up. */
    private static final String FACE = "(?s)## The public face\\s+```java.*?```";
    private static final Pattern REFUSAL = Pattern.compile("-1?[1-7]\\b(?!\\d)|-100000[16]");

    private final String document;
    private final boolean[] quoted;
    private int amiss;

    private DocumentTest(String document) {
        this.document = document;
        this.quoted = new boolean[document.length()];
    }

    public static void main(String[] args) throws IOException {
        Path file = Path.of(System.getProperty("project.root", "."), "..", "shared", "DOC.md");
        String text = Files.exists(file) ? Files.readString(file, StandardCharsets.UTF_8) : "";
        int start = Math.max(text.indexOf("## What it is"), 0);
        int end = text.indexOf("## Not promised");
        String part = text.substring(start, end < start ? text.length() : end).replaceAll(FACE, "");
        DocumentTest test = new DocumentTest(part.replaceAll("\\s+", " "));
        for (Path runs : PromiseTest.files()) {
            test.runs(Files.readAllLines(runs, StandardCharsets.US_ASCII));
        }
        test.unquoted();
        Due.due("what is amiss", Boolean.getBoolean("strict") ? test.amiss : 0, 0);
        Due.end();
    }

    private void amiss(String what) {
        amiss++;
        System.out.println(what);
    }

    private void runs(List<String> lines) {
        int from = 0;
        int to = document.length();
        String of = "";
        List<String> refusals = new ArrayList<>();
        for (String line : lines) {
            if (line.startsWith("of ")) {
                refusals(of, from, to, refusals);
                refusals.clear();
                of = line.substring(3);
                from = Math.max(document.indexOf("## " + of.replace('p', 'P') + ":"), 0);
                int next = document.indexOf("## ", from + 3);
                to = from == 0 || next < 0 ? document.length() : next;
            } else if (line.startsWith("\"")) {
                quote(of, line.substring(1, line.lastIndexOf('"')), from, to);
            } else if (line.contains(" ! ")) {
                refusals.add(line.substring(0, line.indexOf(' ')) + " " + line.substring(line.indexOf(" ! ") + 3));
            }
        }
        refusals(of, from, to, refusals);
    }

    private void quote(String of, String quote, int from, int to) {
        int at = document.indexOf(quote, from);
        if (at < 0 || at + quote.length() > to) {
            at = document.indexOf(quote);
        }
        if (at < 0) {
            amiss(of + " quotes what isn't in the document: " + quote);
        }
        for (int i = at; at >= 0 && i < at + quote.length(); i++) {
            quoted[i] = true;
        }
    }

    private void refusals(String of, int from, int to, List<String> looked) {
        Matcher head = HEAD.matcher(document.substring(from, to));
        Matcher signature = SIGNATURE.matcher(document.substring(from, to));
        if (!of.startsWith("promise") || !head.find() || !signature.find()) {
            return;
        }
        String told = document.substring(from + signature.end(), to).replaceAll("\\(counted[^)]*\\)|REFUSALS -1 to -7", "");
        Matcher refusal = REFUSAL.matcher(told);
        while (refusal.find()) {
            if (!looked.contains(head.group(2) + " " + refusal.group())) {
                amiss(of + ": no run has " + head.group(2) + " answer " + refusal.group());
            }
        }
    }

    /** What no quote holds, but heads and signatures. */
    private void unquoted() {
        String bare = document;
        for (String left : new String[] {HEAD.pattern(), SIGNATURE.pattern(), "```(text)?", "==== \\d\\. [A-Z ]+", "## (What it is|Terms)", "Details\\."}) {
            Matcher m = Pattern.compile(left).matcher(bare);
            while (m.find()) {
                for (int i = m.start(); i < m.end(); i++) {
                    quoted[i] = true;
                }
            }
        }
        StringBuilder open = new StringBuilder();
        for (int i = 0; i <= document.length(); i++) {
            if (i < document.length() && !quoted[i]) {
                open.append(document.charAt(i));
            } else {
                if (open.toString().matches(".*[A-Za-z0-9].*")) {
                    amiss("no run quotes: " + open);
                }
                open.setLength(0);
            }
        }
    }
}
