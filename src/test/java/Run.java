import java.lang.reflect.InvocationTargetException;
import java.lang.reflect.Method;
import java.util.HashMap;
import java.util.Map;
import java.util.regex.Matcher;
import java.util.regex.Pattern;

/**
 * A run of calls on a new object, written as the issues write them: "put(1, 65) = 1; get(2) = NONE". Behind = stands
 * the answer that is due (a number, a refusal's or a FAULT's name, or throws.X; without it the answer is not looked
 * at), behind # how often the call is made.
 */
final class Run {
    /** What an object answers after so many calls is free, so that a run must not be longer. */
    static final int MOST_CALLS = 512;

    private static final Pattern ROW = Pattern.compile("(\\w+)\\((.*)\\)(?: = (\\S+))?(?: # (\\d+))?");
    private static final Map<String, Integer> NAMES = new HashMap<>();
    private static final Map<String, Method> METHODS = new HashMap<>();

    static {
        String[] refusals = {"NONE", "UNKNOWN", "OUTSIDE", "STATE", "FULL"};
        String[] faults = {"NULL", "CAST", "INDEX", "SIZE", "STORE"};
        for (int i = 0; i < 5; i++) {
            NAMES.put(refusals[i], -1 - i);
            NAMES.put(faults[i], -11 - i);
        }
        NAMES.put("MIN", Integer.MIN_VALUE);
        NAMES.put("MAX", Integer.MAX_VALUE);
        for (Method method : GlkStreams.class.getDeclaredMethods()) {
            if (java.lang.reflect.Modifier.isPublic(method.getModifiers())) {
                METHODS.put(method.getName(), method);
            }
        }
    }

    private final GlkStreams object = new GlkStreams();
    private final String sentence;
    private int calls;

    private Run(String sentence) {
        this.sentence = sentence;
    }

    /** A run that tests a sentence of the document: its promise's number, or T for the terms, and its words. */
    static Run of(String sentence, String... rows) {
        return new Run(sentence).then(rows);
    }

    Run then(String... rows) {
        for (String row : String.join(";", rows).split(";")) {
            if (row.isBlank()) {
                continue;
            }
            Matcher parts = partsOf(row.trim());
            int times = parts.group(4) == null ? 1 : Integer.parseInt(parts.group(4));
            for (int i = 0; i < times; i++) {
                String got = call(parts);
                if (parts.group(3) != null) {
                    String label = sentence + " | call " + calls + ", " + row.trim();
                    Due.same(label, got, dueOf(parts.group(1), parts.group(3)));
                }
            }
        }
        return this;
    }

    /** What a call answers, as text. */
    String answer(String call) {
        return call(partsOf(call));
    }

    int calls() {
        return calls;
    }

    static boolean isFault(String name) {
        return NAMES.containsKey(name) && NAMES.get(name) <= -11;
    }

    /** A number that is written out, or a name's. */
    static int number(String word) {
        return NAMES.containsKey(word) ? NAMES.get(word) : Integer.parseInt(word);
    }

    private static Matcher partsOf(String row) {
        Matcher parts = ROW.matcher(row);
        if (!parts.matches()) {
            throw new IllegalArgumentException("not a call: " + row);
        }
        return parts;
    }

    private String call(Matcher parts) {
        calls++;
        if (calls > MOST_CALLS) {
            throw new IllegalStateException(sentence + ": the run is too long");
        }
        Method method = METHODS.get(parts.group(1));
        try {
            return String.valueOf(method.invoke(object, arguments(method, parts.group(2))));
        } catch (InvocationTargetException e) {
            return "throws." + e.getCause().getClass().getSimpleName();
        } catch (IllegalAccessException e) {
            throw new IllegalStateException(e);
        }
    }

    private static Object[] arguments(Method method, String text) {
        String[] words = text.isBlank() ? new String[0] : text.split(",");
        Class<?>[] types = method.getParameterTypes();
        if (words.length != types.length) {
            throw new IllegalArgumentException(method.getName() + " is not called so: " + text);
        }
        Object[] all = new Object[words.length];
        for (int i = 0; i < words.length; i++) {
            all[i] = argument(types[i], words[i].trim());
        }
        return all;
    }

    private static Object argument(Class<?> type, String word) {
        if (type == boolean.class) {
            if (!word.equals("true") && !word.equals("false")) {
                throw new IllegalArgumentException("not true or false: " + word);
            }
            return word.equals("true");
        }
        if (type == long.class) {
            return Long.parseLong(word);
        }
        return number(word);
    }

    /** item() alone answers REFUSED less what another call would. */
    private static String dueOf(String method, String word) {
        if (!NAMES.containsKey(word)) {
            return word;
        }
        long named = NAMES.get(word);
        boolean number = word.equals("MIN") || word.equals("MAX");
        return String.valueOf(method.equals("item") && !number ? Long.MIN_VALUE - named : named);
    }
}
