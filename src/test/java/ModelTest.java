import java.lang.reflect.InvocationTargetException;
import java.lang.reflect.Method;
import java.util.ArrayList;
import java.util.List;
import java.util.Map;
import java.util.Random;
import java.util.TreeMap;
import java.util.TreeSet;

/**
 * Long runs of calls, chosen by chance but always the same, on GlkStreams and on Model, which must answer alike. Of
 * every call all refusals that its promise names must be met on the way, and no other one.
 */
public final class ModelTest {
    private static final int RUNS = 3000;
    private static final int TOPIC_CALLS = 32;
    private static final int[] EXTREMES =
            {Integer.MIN_VALUE, Integer.MAX_VALUE, -2, -1, 0, 2, 3, 4, 5, 6, 7, 8, 19, 20, 40, 41, 1000, 1001};
    private static final int[] MODES = {1, 2, 3, 5};
    private static final String UNSAFE_SIGNS = "/\\<>:\"|?*. ~\u001f\u007f";

    /** Each call's name, the sorts of its arguments, and the refusals of its promise. */
    private static final String[][] CALLS = {
        {"row", "row sort size", "UNKNOWN OUTSIDE SIZE"},
        {"lend", "row row", "UNKNOWN"},
        {"set", "row sort item value", "UNKNOWN OUTSIDE CAST NULL INDEX"},
        {"item", "row sort item", "UNKNOWN OUTSIDE CAST NULL INDEX"},
        {"hold", "row item reference", "UNKNOWN CAST NULL INDEX STORE"},
        {"held", "row item", "UNKNOWN CAST NULL INDEX"},
        {"copy", "row item row item item", "UNKNOWN NULL STORE INDEX"},
        {"pane", "", "FULL"},
        {"memory", "row size mode wide", "UNKNOWN OUTSIDE FULL"},
        {"open", "reference mode wide", "UNKNOWN OUTSIDE STATE FULL"},
        {"resource", "resource wide", "UNKNOWN FULL"},
        {"give", "resource row", "UNKNOWN NULL CAST"},
        {"put", "stream sign", "UNKNOWN OUTSIDE STATE FULL CAST NULL INDEX"},
        {"get", "stream", "NONE UNKNOWN STATE CAST NULL INDEX"},
        {"seek", "stream distance three", "UNKNOWN OUTSIDE STATE"},
        {"close", "stream", "UNKNOWN"},
        {"about", "stream eight", "UNKNOWN OUTSIDE"},
        {"shown", "stream item", "NONE UNKNOWN STATE"},
        {"echo", "stream stream", "UNKNOWN STATE"},
        {"current", "stream", "UNKNOWN"},
        {"say", "sign", "OUTSIDE STATE FULL CAST NULL INDEX"},
        {"name", "letter", "OUTSIDE"},
        {"file", "use", "OUTSIDE STATE FULL"},
        {"temporary", "use", "OUTSIDE FULL"},
        {"exists", "reference", "NONE UNKNOWN"},
        {"drop", "reference", "UNKNOWN STATE"},
        {"upper", "sign", "NONE"},
        {"lower", "sign", "NONE"},
        {"date", "seconds seven", "OUTSIDE"},
        {"timer", "ticks", "OUTSIDE"},
        {"sound", "channel ticks", "OUTSIDE"},
        {"tick", "ticks", "OUTSIDE"},
        {"event", "", ""},
        {"told", "eight", "OUTSIDE"},
        {"share", "", "ArithmeticException"},
    };
    /** First and last call of what a run keeps to for a while, so that its state is rich enough to be asked about. */
    private static final int[][] TOPICS = {{0, 34}, {0, 6}, {7, 20}, {9, 16}, {12, 14}, {18, 25}, {21, 23}, {26, 34}};

    private static final Map<String, Method> ASKED = methodsOf(GlkStreams.class);
    private static final Map<String, Method> MODEL = methodsOf(Model.class);
    private static final Map<String, TreeSet<String>> MET = new TreeMap<>();

    private final GlkStreams asked = new GlkStreams();
    private final Model model = new Model();
    private final List<String> log = new ArrayList<>();
    private final Random random;
    private long latestStream;

    private ModelTest(long seed) {
        random = new Random(seed);
    }

    public static void main(String[] args) {
        boolean alike = true;
        for (int run = 0; run < RUNS && alike; run++) {
            alike = new ModelTest(run).play(run);
        }
        for (String[] call : CALLS) {
            Due.same("the refusals of " + call[0], String.join(" ", metBy(call[0])), sorted(call[2]));
        }
        Due.end();
    }

    private static String sorted(String words) {
        return words.isEmpty() ? "" : String.join(" ", new TreeSet<>(List.of(words.split(" "))));
    }

    private static TreeSet<String> metBy(String call) {
        return MET.computeIfAbsent(call, name -> new TreeSet<>());
    }

    private static Map<String, Method> methodsOf(Class<?> type) {
        Map<String, Method> methods = new TreeMap<>();
        for (String[] call : CALLS) {
            for (Method method : type.getDeclaredMethods()) {
                if (method.getName().equals(call[0])) {
                    methods.put(call[0], method);
                }
            }
        }
        return methods;
    }

    private boolean play(int run) {
        int[] topic = TOPICS[0];
        for (int i = 0; i < Run.MOST_CALLS; i++) {
            if (i % TOPIC_CALLS == 0) {
                topic = TOPICS[random.nextInt(TOPICS.length)];
            }
            String[] call = CALLS[topic[0] + random.nextInt(topic[1] - topic[0] + 1)];
            // Closed as often as the rest is called, hardly a STREAM would live to be put to.
            if (call[0].equals("close") && random.nextInt(4) != 0) {
                call = CALLS[12];
            }
            if (!answersAlike(run, call)) {
                return false;
            }
        }
        return true;
    }

    private boolean answersAlike(int run, String[] call) {
        String[] sorts = call[1].isEmpty() ? new String[0] : call[1].split(" ");
        Object[] arguments = new Object[sorts.length];
        List<String> words = new ArrayList<>();
        for (int i = 0; i < sorts.length; i++) {
            arguments[i] = argument(sorts[i]);
            words.add(arguments[i].toString());
        }
        String got = answer(ASKED.get(call[0]), asked, arguments);
        String want = answer(MODEL.get(call[0]), model, arguments);
        String written = call[0] + "(" + String.join(", ", words) + ")";
        if (!got.equals(want)) {
            System.out.println(String.join("; ", log));
            Due.same("run " + run + ", behind these calls, " + written, got, want);
            return false;
        }
        log.add(written + " = " + want);
        note(call[0], want);
        return true;
    }

    private static String answer(Method method, Object object, Object[] arguments) {
        try {
            return String.valueOf(method.invoke(object, arguments));
        } catch (InvocationTargetException e) {
            return e.getCause().getClass().getSimpleName();
        } catch (IllegalAccessException e) {
            throw new IllegalStateException(e);
        }
    }

    private void note(String call, String answer) {
        if (answer.equals("ArithmeticException")) {
            metBy(call).add(answer);
            return;
        }
        long number = Long.parseLong(answer);
        if (List.of("pane", "memory", "open", "resource").contains(call)) {
            latestStream = Math.max(latestStream, number);
        }
        // Items and years may be below 0, and are no refusals.
        long refusal = call.equals("item") ? (number < Integer.MIN_VALUE ? Long.MIN_VALUE - number : 0) : number;
        if (refusal < 0 && !(call.equals("date") && refusal < -10)) {
            metBy(call).add(nameOf(refusal));
        }
    }

    private static String nameOf(long refusal) {
        for (String name : "NONE UNKNOWN OUTSIDE STATE FULL NULL CAST INDEX SIZE STORE".split(" ")) {
            if (Run.number(name) == refusal) {
                return name;
            }
        }
        return String.valueOf(refusal);
    }

    private Object argument(String sort) {
        if (sort.equals("wide")) {
            return random.nextBoolean();
        }
        if (sort.equals("seconds")) {
            return seconds();
        }
        return random.nextInt(20) == 0 ? EXTREMES[random.nextInt(EXTREMES.length)] : ordinary(sort);
    }

    private int ordinary(String sort) {
        switch (sort) {
            case "row": return random.nextInt(4);
            case "sort": return random.nextInt(10) == 0 ? random.nextInt(8) - 1 : 1 + random.nextInt(4);
            case "size": return random.nextInt(7);
            case "item": return random.nextInt(5) == 0 ? random.nextInt(43) - 1 : random.nextInt(4);
            case "value": return random.nextBoolean() ? random.nextInt() : random.nextInt(600) - 300;
            case "reference": return random.nextInt(random.nextBoolean() ? 4 : 20);
            case "mode": return random.nextInt(10) == 0 ? random.nextInt(8) - 1 : MODES[random.nextInt(MODES.length)];
            case "resource": case "use": return random.nextInt(4);
            case "stream": return (int) Math.max(0, latestStream - random.nextInt(9) + random.nextInt(2));
            case "sign": return sign();
            case "letter": return random.nextInt(4) == 0 ? sign() : 'a' + random.nextInt(2);
            case "distance": return random.nextInt(60) - 30;
            case "three": return random.nextInt(3);
            case "seven": return random.nextInt(7);
            case "eight": return random.nextInt(8);
            case "channel": return random.nextInt(2);
            case "ticks": return random.nextInt(9);
            default: throw new IllegalArgumentException(sort);
        }
    }

    private int sign() {
        switch (random.nextInt(6)) {
            case 0: return random.nextInt(1114112);
            case 1: return 1114111 + random.nextInt(2);
            case 2: return UNSAFE_SIGNS.charAt(random.nextInt(UNSAFE_SIGNS.length()));
            case 3: return 250 + random.nextInt(12);
            default: return random.nextInt(1200);
        }
    }

    private long seconds() {
        long most = 100_000_000_000_000L;
        switch (random.nextInt(4)) {
            case 0: return (random.nextBoolean() ? most : -most) + random.nextInt(3) - 1;
            case 1: return random.nextLong() % most;
            case 2: return random.nextLong();
            default: return random.nextLong() % 100_000_000_000L;
        }
    }
}
