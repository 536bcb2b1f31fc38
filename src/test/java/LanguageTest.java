import java.lang.reflect.Field;
import java.lang.reflect.Method;
import java.lang.reflect.Modifier;
import java.nio.charset.StandardCharsets;
import java.nio.file.Files;
import java.nio.file.Path;
import java.util.Set;
import java.util.TreeSet;

/** The face of the class, and those rules of LANGUAGE.md that can be looked up. */
public final class LanguageTest {
    private static final String[] FACE = {
        "int row(int,int,int)", "int set(int,int,long)", "int copy(int,int,int,int,int)", "long element(int,int)",
        "int show(int,int)", "int holds(int)", "int says(int,int)", "int peak(int,int,int,int)", "int screen(int,int)",
        "int valley(int)", "int under(int,int,boolean)", "int peakOf(int,int)", "int valleyOf(int,int)", "int range(int)",
        "int fault()", "int since(int,int)", "int black(int,int)", "int behind(int,int)", "int white()", "int yields(int)",
        "int grief(int)", "int least()", "int order(int,int)", "int cost(int)", "int screened(int,int,int)",
        "int hide(int,int)", "int fits(int)", "int fires(int)", "int send()", "int chain(int,int)", "int lacks(int)",
        "int spared(int,int)", "int judge(int,int)", "int told(int,int,int)", "int done(int,int)", "int take(int)",
        "int years(int)", "int ages(int)", "int seed(int)", "int act(int,int,int)", "int trace(int)", "int image()",
        "int restore()", "int status(int)"};
    private static final String[] RULED_OUT = {
        "throw", "try", "catch", "finally", "synchronized", "assert", "import", "package", "protected", "native", "volatile",
        "default void", "System.out", "String.", "Random", "hashCode", "toString", "equals"};
    private static final int MOST_LINES = 60;

    public static void main(String[] args) throws Exception {
        face();
        classes();
        text();
        Due.end();
    }

    private static void face() throws Exception {
        Class<?> face = MountainsInMourning.class;
        Due.that("the class is public and final", Modifier.isPublic(face.getModifiers()) && Modifier.isFinal(face.getModifiers()));
        Set<String> due = new TreeSet<>(Set.of(FACE));
        Set<String> names = new TreeSet<>();
        Set<String> got = new TreeSet<>();
        for (Method m : face.getDeclaredMethods()) {
            if (!Modifier.isPrivate(m.getModifiers())) {
                got.add(told(m));
                names.add(m.getName());
                Due.that(m + " is public and no more", m.getModifiers() == Modifier.PUBLIC);
            }
        }
        Due.that("the methods of the face: " + got, got.equals(due));
        for (Class<?> c : face.getDeclaredClasses()) {
            for (Method m : c.getDeclaredMethods()) {
                Due.that(m + " bears a name of its own", !names.contains(m.getName()));
            }
        }
        for (Method m : face.getDeclaredMethods()) {
            Due.that(m + " bears a name of its own", Modifier.isPublic(m.getModifiers()) || !names.contains(m.getName()));
        }
        Due.due("constructors", face.getDeclaredConstructors().length, 1);
        Due.that("the constructor is public", Modifier.isPublic(face.getDeclaredConstructor().getModifiers()));
        for (Field f : face.getDeclaredFields()) {
            Due.that(f + " is private, but NONE", f.getName().equals("NONE") != Modifier.isPrivate(f.getModifiers()));
        }
    }

    private static String told(Method m) {
        StringBuilder told = new StringBuilder(m.getReturnType().getName()).append(' ').append(m.getName()).append('(');
        for (int i = 0; i < m.getParameterCount(); i++) {
            told.append(i > 0 ? "," : "").append(m.getParameterTypes()[i].getName());
        }
        return told.append(')').toString();
    }

    private static void classes() {
        Class<?>[] inside = MountainsInMourning.class.getDeclaredClasses();
        Due.that("some twelve classes at most", inside.length < 12);
        fields(MountainsInMourning.class);
        for (Class<?> c : inside) {
            Due.that(c + " is static", Modifier.isStatic(c.getModifiers()));
            Due.due(c + "'s own classes", c.getDeclaredClasses().length, 0);
            fields(c);
        }
    }

    private static void fields(Class<?> c) {
        int own = 0;
        for (Field f : c.getDeclaredFields()) {
            if (Modifier.isStatic(f.getModifiers())) {
                Due.that(f + " is final", Modifier.isFinal(f.getModifiers()));
            } else {
                own++;
            }
        }
        Due.that(c + " has some twenty fields at most", own <= 20);
        for (Method m : c.getDeclaredMethods()) {
            Due.that(m + " takes seven at most", m.getParameterCount() <= 7);
        }
    }

    private static void text() throws Exception {
        String root = System.getProperty("project.root", ".");
        Path file = Path.of(root, "src", "main", "java", "MountainsInMourning.java");
        String text = Files.readString(file, StandardCharsets.UTF_8);
        for (int i = 0; i < text.length(); i++) {
            if (text.charAt(i) > 126 || text.charAt(i) < 32 && text.charAt(i) != '\n') {
                Due.that("a plain sign at " + i, false);
            }
        }
        String code = text.replaceAll("(?s)/\\*.*?\\*/", "").replaceAll("//[^\n]*", "");
        for (String word : RULED_OUT) {
            Due.that("no " + word, !code.matches("(?s).*\\b" + word.replace(".", "\\.") + (word.endsWith(".") ? "" : "\\b") + ".*"));
        }
        Due.that("no lambda", !code.contains("->"));
        Due.that("no method reference", !code.contains("::"));
        Due.that("no array of two dimensions but of numbers", !code.contains("Row[][]"));
        lengths(text.split("\n"));
    }

    private static void lengths(String[] lines) {
        int start = -1;
        String end = "";
        for (int i = 0; i < lines.length; i++) {
            Due.that("line " + (i + 1) + " is 120 signs long at most", lines[i].length() <= 120);
            if (start < 0 && lines[i].matches(" +[\\w \\[\\]]+\\w\\([^;]*\\{") && !lines[i].trim().matches("(if|for|while|switch|else).*")) {
                start = i;
                end = lines[i].replaceAll("\\S.*", "") + "}";
            }
            if (start >= 0 && lines[i].equals(end)) {
                Due.that("the method at line " + (start + 1) + " is short", i - start < MOST_LINES);
                start = -1;
            }
        }
    }
}
