import java.lang.reflect.InvocationTargetException;
import java.lang.reflect.Method;
import java.lang.reflect.Modifier;
import java.util.ArrayList;
import java.util.Arrays;
import java.util.HashMap;
import java.util.LinkedHashMap;
import java.util.List;
import java.util.Map;

/**
 * A run of told calls on a new object. Each call can be made over again on another new object, so that what an object
 * shows behind a call is compared with what its twin shows that wasn't asked.
 */
final class Run {
    /** What later calls answer is free. */
    private static final int MOST_CALLS = 512;
    private static final int SHELVES = 8;
    private static final int MOST_ELEMENTS = 160;
    private static final int REFUSALS = 7;
    private static final Map<String, Method> FACE = face();

    /** What a line tells of a call behind its arguments. */
    enum Told {
        /** Nothing: a call that isn't refused, whatever it answers. */
        NOTHING,
        /** = its answer: it isn't refused. */
        ANSWER,
        /** ? its answer: nothing at all changes. */
        QUESTION,
        /** ! its answer: nothing changes but the count of this refusal. */
        REFUSAL
    }

    private static final class Call {
        final Method method;
        final Object[] arguments;
        final String text;

        Call(Method method, Object[] arguments, String text) {
            this.method = method;
            this.arguments = arguments;
            this.text = text;
        }
    }

    /** A new object, and how many calls it has had. */
    private static final class Asked {
        final MountainsInMourning x = new MountainsInMourning();
        int calls;

        long ask(Call call) {
            calls++;
            Object answer;
            try {
                answer = call.method.invoke(x, call.arguments);
            } catch (InvocationTargetException e) {
                throw new IllegalStateException(call.text + " threw " + e.getCause(), e);
            } catch (IllegalAccessException e) {
                throw new IllegalStateException(call.text, e);
            }
            return ((Number) answer).longValue();
        }

        long ask(String name, int... arguments) {
            Object[] boxed = new Object[arguments.length];
            for (int i = 0; i < arguments.length; i++) {
                boxed[i] = arguments[i];
            }
            return ask(new Call(FACE.get(name), boxed, name));
        }
    }

    private final String name;
    private final List<Call> calls = new ArrayList<>();

    Run(String name) {
        this.name = name;
    }

    private static Map<String, Method> face() {
        Map<String, Method> face = new HashMap<>();
        for (Method m : MountainsInMourning.class.getDeclaredMethods()) {
            if (Modifier.isPublic(m.getModifiers())) {
                face.put(m.getName(), m);
            }
        }
        return face;
    }

    /** One line: calls, and what is told of the last of them. */
    void line(String where, String line) {
        String at = name + "\n  " + where + ": " + line.trim();
        int sign = signOf(line);
        Told told = sign < 0 ? Told.NOTHING : toldBy(line.charAt(sign));
        String left = sign < 0 ? line : line.substring(0, sign);
        List<Call> more = callsOf(left, at);
        for (int i = 0; i < more.size(); i++) {
            boolean last = i == more.size() - 1;
            make(at, more.get(i), last ? told : Told.NOTHING, last && sign >= 0 ? number(line.substring(sign + 1).trim()) : 0);
        }
    }

    private static int signOf(String line) {
        if (line.startsWith("text ")) {
            return -1;
        }
        for (int i = line.length() - 1; i > 0; i--) {
            if ("=?!".indexOf(line.charAt(i)) >= 0 && line.charAt(i - 1) == ' ') {
                return i;
            }
        }
        return -1;
    }

    private static Told toldBy(char sign) {
        return sign == '=' ? Told.ANSWER : sign == '?' ? Told.QUESTION : Told.REFUSAL;
    }

    // ---- the calls that a line tells

    private static List<Call> callsOf(String line, String at) {
        List<Call> told = new ArrayList<>();
        String[] words = line.trim().split(" +");
        if (words[0].equals("text")) {
            letters(told, words[1], words[2], line.substring(line.indexOf('|') + 1, line.lastIndexOf('|')));
        } else if (words[0].equals("numbers")) {
            told.add(call(at, "row", words[1], words[2], "" + (words.length - 3)));
            for (int i = 3; i < words.length; i++) {
                told.add(call(at, "set", words[1], "" + (i - 3), words[i]));
            }
        } else if (words[0].equals("inarow")) {
            for (int i = 1; i < words.length; i++) {
                told.add(call(at, "peak", words[i], "9", "" + 10 * (i - 1), "10"));
            }
        } else if (words.length > 1 && words[1].equals("times")) {
            for (int i = 0; i < Integer.parseInt(words[0]); i++) {
                told.add(call(at, Arrays.copyOfRange(words, 2, words.length)));
            }
        } else {
            told.add(call(at, words));
        }
        return told;
    }

    private static void letters(List<Call> told, String s, String sort, String text) {
        told.add(call(text, "row", s, sort, "" + text.length()));
        for (int i = 0; i < text.length(); i++) {
            told.add(call(text, "set", s, "" + i, "" + (int) text.charAt(i)));
        }
    }

    private static Call call(String at, String... words) {
        Method method = FACE.get(words[0]);
        if (method == null || method.getParameterCount() != words.length - 1) {
            throw new IllegalArgumentException(at + ": no such call");
        }
        Object[] arguments = new Object[words.length - 1];
        StringBuilder text = new StringBuilder(words[0]);
        for (int i = 0; i < arguments.length; i++) {
            Class<?> type = method.getParameterTypes()[i];
            String word = words[i + 1];
            if (type == boolean.class) {
                arguments[i] = Boolean.valueOf(word);
            } else if (type == long.class) {
                arguments[i] = number(word);
            } else {
                arguments[i] = Math.toIntExact(number(word));
            }
            text.append(' ').append(word);
        }
        return new Call(method, arguments, text.toString());
    }

    private static long number(String word) {
        switch (word) {
            case "min":
                return Integer.MIN_VALUE;
            case "max":
                return Integer.MAX_VALUE;
            case "longmin":
                return Long.MIN_VALUE;
            case "longmax":
                return Long.MAX_VALUE;
            default:
                return word.startsWith("'") ? word.charAt(1) : Long.decode(word);
        }
    }

    // ---- making them

    private void make(String at, Call call, Told told, long due) {
        Asked without = replayed(null);
        long[] before = refusals(without);
        Asked with = replayed(null);
        long answer = with.ask(call);
        long[] behind = refusals(with);
        if (told != Told.NOTHING) {
            Due.due(at, answer, due);
        }
        int refused = told == Told.REFUSAL ? codeOf(due) : 0;
        for (int code = 1; code <= REFUSALS; code++) {
            Due.due(at + "\n  " + call.text + ": refusals -" + code, behind[code] - before[code], code == refused ? 1 : 0);
        }
        if (told == Told.QUESTION || told == Told.REFUSAL) {
            // the fault of a text is that of the latest one, refused or not
            boolean leaveFault = told == Told.REFUSAL && call.text.startsWith("range ") && due == -6;
            compare(at, call, leaveFault);
        }
        calls.add(call);
    }

    private static int codeOf(long due) {
        long code = -due % 1000000;
        return (int) (code > 10 ? code - 10 : code);
    }

    private static long[] refusals(Asked asked) {
        long[] counts = new long[REFUSALS + 1];
        for (int code = 1; code <= REFUSALS; code++) {
            counts[code] = asked.ask("status", 10 + code);
        }
        return counts;
    }

    private Asked replayed(Call more) {
        Asked asked = new Asked();
        for (Call call : calls) {
            asked.ask(call);
        }
        if (more != null) {
            asked.ask(more);
        }
        return asked;
    }

    // ---- what an object shows

    private void compare(String at, Call call, boolean leaveFault) {
        for (int view = 0; view < 2 + SHELVES; view++) {
            Map<String, Long> without = shown(replayed(null), view);
            Map<String, Long> with = shown(replayed(call), view);
            if (leaveFault) {
                without.remove("fault");
                with.remove("fault");
            }
            Due.that(at + "\n  " + call.text + " changes what is shown: " + without + " to " + with, without.equals(with));
        }
    }

    private static Map<String, Long> shown(Asked asked, int view) {
        Map<String, Long> shown = new LinkedHashMap<>();
        if (view == 0) {
            range(asked, shown);
        } else if (view == 1) {
            if (asked.ask("restore") >= 0) {
                range(asked, shown);
            }
        } else if (asked.ask("holds", view - 2) >= 100) {
            for (int i = 0; i < MOST_ELEMENTS; i++) {
                see(asked, shown, "element", view - 2, i);
            }
        }
        Due.that("no more than " + MOST_CALLS + " calls of an object", asked.calls <= MOST_CALLS);
        return shown;
    }

    private static void range(Asked asked, Map<String, Long> shown) {
        for (int what = 0; what <= 7; what++) {
            see(asked, shown, "status", what);
        }
        see(asked, shown, "fault");
        for (int i = 0; i < 20; i++) {
            see(asked, shown, "trace", i);
        }
        for (int s = 0; s < SHELVES; s++) {
            see(asked, shown, "holds", s);
        }
        for (int v = 0; v < shown.get("status 3"); v++) {
            for (int what = 0; what <= 2; what++) {
                see(asked, shown, "valleyOf", v, what);
            }
        }
        for (int p = 0; p < shown.get("status 0"); p++) {
            for (int what = 0; what <= 6; what++) {
                see(asked, shown, "peakOf", p, what);
            }
            for (int q = 0; q < shown.get("status 0"); q++) {
                see(asked, shown, "since", p, q);
            }
        }
    }

    private static void see(Asked asked, Map<String, Long> shown, String name, int... arguments) {
        StringBuilder text = new StringBuilder(name);
        for (int argument : arguments) {
            text.append(' ').append(argument);
        }
        shown.put(text.toString(), asked.ask(name, arguments));
    }
}
