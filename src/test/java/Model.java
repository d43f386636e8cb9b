import java.time.LocalDateTime;
import java.time.ZoneOffset;
import java.util.ArrayDeque;
import java.util.ArrayList;
import java.util.Arrays;
import java.util.Deque;
import java.util.HashMap;
import java.util.LinkedList;
import java.util.List;
import java.util.Map;
import java.util.TreeMap;

/**
 * The document a second time, by means that the class itself must not use: Java's own arrays, casts and exceptions,
 * maps and calendar, pairs of signs written out, and times instead of countdowns. Each call bears the name of the one
 * of GlkStreams that it stands for.
 */
final class Model {
    private static final int NONE = -1, UNKNOWN = -2, OUTSIDE = -3, STATE = -4, FULL = -5;
    private static final int LAST_SIGN = 1114111;
    private static final Map<Integer, Integer> GREAT = new HashMap<>(), SMALL = new HashMap<>();

    private static class Reference {
        final int number;
        final String path;

        Reference(int number, String path) {
            this.number = number;
            this.path = path;
        }
    }

    private static final class Temporary extends Reference {
        Temporary(int number) {
            super(number, "temporary " + number);
        }
    }

    private static final class Stream {
        final int kind;
        final int mode;
        final boolean wide;
        Object array;
        int items;
        String path;
        List<Integer> signs;
        final LinkedList<Integer> shown = new LinkedList<>();
        int echo;
        int place;
        int put;
        int got;

        Stream(int kind, int mode, boolean wide) {
            this.kind = kind;
            this.mode = mode;
            this.wide = wide;
        }
    }

    private final Object[] rows = new Object[8];
    private final Map<Integer, Stream> open = new TreeMap<>();
    private final List<Reference> references = new ArrayList<>();
    private final Map<String, List<Integer>> files = new HashMap<>();
    private final Map<Integer, List<Integer>> resources = new HashMap<>();
    private final Deque<Integer> events = new ArrayDeque<>();
    private final int[] soundEnds = {NONE, NONE};
    private String name = "";
    private boolean behindDot;
    private int changed;
    private int opened;
    private int current;
    private int put;
    private int dropped;
    private int fault;
    private int time;
    private int every;
    private int timerBegan;
    private int lost;

    static {
        pairs('a', 'z', 1, 32);
        pairs(224, 246, 1, 32);
        pairs(248, 254, 1, 32);
        pairs(945, 961, 1, 32);
        pairs(963, 969, 1, 32);
        pairs(1072, 1103, 1, 32);
        pairs(1104, 1119, 1, 80);
        pairs(257, 303, 2, 1);
        pairs(255, 255, 1, 255 - 376);
        GREAT.put(962, 931);
    }

    private static void pairs(int first, int last, int step, int less) {
        for (int small = first; small <= last; small += step) {
            GREAT.put(small, small - less);
            SMALL.put(small - less, small);
        }
    }

    // ---- rows

    int row(int r, int sort, int n) {
        if (isNoRow(r)) {
            return UNKNOWN;
        }
        if (sort < 0 || sort > 4 || (sort != 0 && n > 40)) {
            return OUTSIDE;
        }
        try {
            switch (sort) {
                case 0: rows[r] = null; break;
                case 1: rows[r] = new byte[n]; break;
                case 2: rows[r] = new int[n]; break;
                case 3: rows[r] = new Reference[n]; break;
                default: rows[r] = new Temporary[n];
            }
            return 1;
        } catch (RuntimeException e) {
            return answerOf(e);
        }
    }

    int lend(int r, int from) {
        if (isNoRow(r) || isNoRow(from)) {
            return UNKNOWN;
        }
        rows[r] = rows[from];
        return 1;
    }

    int set(int r, int sort, int k, int v) {
        if (isNoRow(r)) {
            return UNKNOWN;
        }
        if (sort != 1 && sort != 2) {
            return OUTSIDE;
        }
        try {
            store(rows[r], sort == 2, k, v);
            return 1;
        } catch (RuntimeException e) {
            return answerOf(e);
        }
    }

    long item(int r, int sort, int k) {
        if (isNoRow(r)) {
            return Long.MIN_VALUE - UNKNOWN;
        }
        if (sort != 1 && sort != 2) {
            return Long.MIN_VALUE - OUTSIDE;
        }
        try {
            return load(rows[r], sort == 2, k);
        } catch (RuntimeException e) {
            return Long.MIN_VALUE - answerOf(e);
        }
    }

    int hold(int r, int k, int reference) {
        if (isNoRow(r) || (reference != NONE && isNoReference(reference))) {
            return UNKNOWN;
        }
        try {
            ((Reference[]) rows[r])[k] = reference == NONE ? null : references.get(reference);
            return 1;
        } catch (RuntimeException e) {
            return answerOf(e);
        }
    }

    int held(int r, int k) {
        if (isNoRow(r)) {
            return UNKNOWN;
        }
        try {
            return ((Reference[]) rows[r])[k].number;
        } catch (RuntimeException e) {
            return answerOf(e);
        }
    }

    int copy(int r, int at, int s, int to, int n) {
        if (isNoRow(r) || isNoRow(s)) {
            return UNKNOWN;
        }
        try {
            System.arraycopy(rows[r], at, rows[s], to, n);
            return 1;
        } catch (RuntimeException e) {
            return answerOf(e);
        }
    }

    private static boolean isNoRow(int r) {
        return r < 0 || r > 7;
    }

    private static void store(Object array, boolean ints, int k, int v) {
        if (ints) {
            ((int[]) array)[k] = v;
        } else {
            ((byte[]) array)[k] = (byte) v;
        }
    }

    private static int load(Object array, boolean ints, int k) {
        return ints ? ((int[]) array)[k] : ((byte[]) array)[k];
    }

    private int answerOf(RuntimeException e) {
        List<Class<?>> faults = Arrays.asList(NullPointerException.class, ClassCastException.class,
                ArrayIndexOutOfBoundsException.class, NegativeArraySizeException.class, ArrayStoreException.class);
        if (!faults.contains(e.getClass())) {
            throw e;
        }
        fault = 1 + faults.indexOf(e.getClass());
        return -10 - fault;
    }

    // ---- streams

    int pane() {
        return open.size() == 8 ? FULL : number(new Stream(0, 1, true));
    }

    int memory(int r, int n, int mode, boolean wide) {
        if (isNoRow(r)) {
            return UNKNOWN;
        }
        if (n < 0 || n > 40 || mode < 1 || mode > 3) {
            return OUTSIDE;
        }
        if (open.size() == 8) {
            return FULL;
        }
        Stream s = new Stream(1, mode, wide);
        s.array = rows[r];
        s.items = n;
        return number(s);
    }

    int open(int reference, int mode, boolean wide) {
        if (isNoReference(reference)) {
            return UNKNOWN;
        }
        if (!List.of(1, 2, 3, 5).contains(mode)) {
            return OUTSIDE;
        }
        String path = references.get(reference).path;
        boolean there = files.containsKey(path);
        boolean alone = open.values().stream().noneMatch(s -> path.equals(s.path));
        boolean amongReaders = open.values().stream().noneMatch(s -> path.equals(s.path) && s.mode != 2);
        if (mode == 2 ? !there || !amongReaders : !alone) {
            return STATE;
        }
        if (open.size() == 8 || (!there && files.size() == 6)) {
            return FULL;
        }
        if (mode == 1 || !there) {
            files.put(path, new ArrayList<>());
        }
        Stream s = new Stream(2, mode, wide);
        s.path = path;
        if (mode == 5) {
            List<Integer> bytes = files.get(path);
            while (wide && bytes.size() % 4 != 0) {
                bytes.remove(bytes.size() - 1);
            }
            s.place = end(s);
        }
        return number(s);
    }

    int resource(int number, boolean wide) {
        if (!resources.containsKey(number)) {
            return UNKNOWN;
        }
        if (open.size() == 8) {
            return FULL;
        }
        Stream s = new Stream(3, 2, wide);
        s.signs = resources.get(number);
        return number(s);
    }

    int give(int number, int r) {
        if (number < 0 || number > 3 || isNoRow(r)) {
            return UNKNOWN;
        }
        List<Integer> signs = new ArrayList<>();
        if (rows[r] instanceof byte[] bytes) {
            for (byte b : bytes) {
                signs.add(Byte.toUnsignedInt(b));
            }
        } else if (rows[r] instanceof int[] ints) {
            for (int i : ints) {
                signs.add(signOf(i));
            }
        } else {
            fault = rows[r] == null ? 1 : 2;
            return -10 - fault;
        }
        resources.put(number, signs);
        return signs.size();
    }

    int put(int stream, int c) {
        if (!open.containsKey(stream)) {
            return UNKNOWN;
        }
        return isNoSign(c) ? OUTSIDE : putBehind(open.get(stream), c);
    }

    int get(int stream) {
        Stream s = open.get(stream);
        if (s == null) {
            return UNKNOWN;
        }
        if (s.mode != 2 && s.mode != 3) {
            return STATE;
        }
        if (s.place == end(s)) {
            return NONE;
        }
        try {
            int sign = signAt(s);
            s.place++;
            s.got++;
            return sign;
        } catch (RuntimeException e) {
            return answerOf(e);
        }
    }

    int seek(int stream, int at, int from) {
        Stream s = open.get(stream);
        if (s == null) {
            return UNKNOWN;
        }
        if (from < 0 || from > 2) {
            return OUTSIDE;
        }
        if (s.kind == 0) {
            return STATE;
        }
        long[] bases = {0, s.place, end(s)};
        long asked = bases[from] + at;
        s.place = asked < 0 ? 0 : asked > end(s) ? end(s) : (int) asked;
        return s.place;
    }

    int close(int stream) {
        Stream s = open.remove(stream);
        if (s == null) {
            return UNKNOWN;
        }
        current = current == stream ? 0 : current;
        for (Stream other : open.values()) {
            other.echo = other.echo == stream ? 0 : other.echo;
        }
        return s.put;
    }

    int about(int stream, int what) {
        Stream s = open.get(stream);
        if (s == null) {
            return UNKNOWN;
        }
        int[] all = {s.kind, s.place, end(s), s.put, s.got, s.mode, s.wide ? 1 : 0, s.echo};
        return what < 0 || what > 7 ? OUTSIDE : all[what];
    }

    int shown(int stream, int i) {
        Stream s = open.get(stream);
        if (s == null) {
            return UNKNOWN;
        }
        if (s.kind != 0) {
            return STATE;
        }
        return i < 0 || i >= s.shown.size() ? NONE : s.shown.get(i);
    }

    int echo(int stream, int to) {
        if (!open.containsKey(stream) || (to != 0 && !open.containsKey(to))) {
            return UNKNOWN;
        }
        Stream s = open.get(stream);
        if (s.kind != 0) {
            return STATE;
        }
        for (int next = to; next != 0; next = open.get(next).echo) {
            if (next == stream) {
                return 0;
            }
        }
        s.echo = to;
        return 1;
    }

    int current(int stream) {
        if (stream != 0 && !open.containsKey(stream)) {
            return UNKNOWN;
        }
        int before = current;
        current = stream;
        return before;
    }

    int say(int c) {
        if (isNoSign(c)) {
            return OUTSIDE;
        }
        return current == 0 ? STATE : put(current, c);
    }

    private int number(Stream s) {
        opened++;
        open.put(opened, s);
        return opened;
    }

    private int end(Stream s) {
        switch (s.kind) {
            case 0: return 0;
            case 1: return s.items;
            case 2: return files.get(s.path).size() / (s.wide ? 4 : 1);
            default: return s.signs.size();
        }
    }

    private int putBehind(Stream s, int c) {
        int answer = putAlone(s, s.wide || c < 256 ? c : '?');
        int behind = s.echo == 0 ? 1 : putBehind(open.get(s.echo), c);
        return behind < -10 ? behind : answer;
    }

    private int putAlone(Stream s, int c) {
        if (s.mode == 2) {
            return STATE;
        }
        if (s.kind == 2 && !putBytes(s, c)) {
            return FULL;
        }
        if (s.kind == 1 && s.place < s.items) {
            try {
                store(s.array, s.wide, s.place, c);
            } catch (RuntimeException e) {
                return answerOf(e);
            }
            s.place++;
        } else if (s.kind == 1) {
            dropped++;
        } else if (s.kind == 0) {
            s.shown.addFirst(c);
            while (s.shown.size() > 20) {
                s.shown.removeLast();
            }
        }
        s.put++;
        put++;
        return 1;
    }

    private boolean putBytes(Stream s, int c) {
        List<Integer> sign = s.wide ? List.of(0, c / 65536, c / 256 % 256, c % 256) : List.of(c);
        int from = s.place * sign.size();
        if (from + sign.size() > 60) {
            return false;
        }
        List<Integer> bytes = files.get(s.path);
        for (int i = 0; i < sign.size(); i++) {
            if (from + i == bytes.size()) {
                bytes.add(0);
            }
            bytes.set(from + i, sign.get(i));
        }
        s.place++;
        return true;
    }

    private int signAt(Stream s) {
        if (s.kind == 1) {
            int value = load(s.array, s.wide, s.place);
            return s.wide ? signOf(value) : value < 0 ? value + 256 : value;
        }
        if (s.kind == 3) {
            int sign = s.signs.get(s.place);
            return s.wide || sign < 256 ? sign : '?';
        }
        List<Integer> bytes = files.get(s.path);
        if (!s.wide) {
            return bytes.get(s.place);
        }
        long value = 0;
        for (int b : bytes.subList(4 * s.place, 4 * s.place + 4)) {
            value = value * 256 + b;
        }
        return signOf((int) value);
    }

    private static int signOf(int value) {
        int lowest = Math.floorMod(value, 1 << 21);
        return lowest > LAST_SIGN ? '?' : lowest;
    }

    private static boolean isNoSign(int c) {
        return c < 0 || c > LAST_SIGN;
    }

    // ---- files

    int name(int c) {
        if (isNoSign(c)) {
            return OUTSIDE;
        }
        behindDot |= c == '.';
        if (behindDot || c < ' ' || c > '~' || "/\\<>:\"|?*".contains(Character.toString(c))) {
            changed++;
        } else if (name.length() < 8) {
            name += (char) c;
        }
        return name.length();
    }

    int file(int use) {
        if (use < 0 || use > 3) {
            return OUTSIDE;
        }
        if (name.isEmpty()) {
            behindDot = false;
            return STATE;
        }
        if (references.size() == 20) {
            return FULL;
        }
        references.add(new Reference(references.size(), use + "/" + name));
        name = "";
        behindDot = false;
        return references.size() - 1;
    }

    int temporary(int use) {
        if (use < 0 || use > 3) {
            return OUTSIDE;
        }
        if (references.size() == 20) {
            return FULL;
        }
        references.add(new Temporary(references.size()));
        return references.size() - 1;
    }

    int exists(int reference) {
        if (isNoReference(reference)) {
            return UNKNOWN;
        }
        String path = references.get(reference).path;
        return files.containsKey(path) ? files.get(path).size() : NONE;
    }

    int drop(int reference) {
        if (isNoReference(reference)) {
            return UNKNOWN;
        }
        String path = references.get(reference).path;
        if (open.values().stream().anyMatch(s -> path.equals(s.path))) {
            return STATE;
        }
        return files.remove(path) == null ? 0 : 1;
    }

    private boolean isNoReference(int reference) {
        return reference < 0 || reference >= references.size();
    }

    // ---- signs, dates, events

    int upper(int c) {
        return isNoSign(c) ? NONE : GREAT.getOrDefault(c, c);
    }

    int lower(int c) {
        return isNoSign(c) ? NONE : SMALL.getOrDefault(c, c);
    }

    int date(long seconds, int what) {
        long most = 100_000_000_000_000L;
        if (what < 0 || what > 6 || seconds < -most || seconds > most) {
            return OUTSIDE;
        }
        LocalDateTime date = LocalDateTime.ofEpochSecond(seconds, 0, ZoneOffset.UTC);
        int year = date.getYear();
        int[] all = {year < 0 ? year - 10 : year, date.getMonthValue(), date.getDayOfMonth(),
            date.getDayOfWeek().getValue() % 7, date.getHour(), date.getMinute(), date.getSecond()};
        return all[what];
    }

    int timer(int ticks) {
        if (ticks < 0 || ticks > 1000) {
            return OUTSIDE;
        }
        int before = every;
        every = ticks;
        timerBegan = time;
        return before;
    }

    int sound(int channel, int ticks) {
        if (channel < 0 || channel > 1 || ticks < 0 || ticks > 1000) {
            return OUTSIDE;
        }
        int left = Math.max(0, soundEnds[channel] - time);
        soundEnds[channel] = ticks == 0 ? NONE : time + ticks;
        return left;
    }

    int tick(int n) {
        if (n < 0 || n > 1000) {
            return OUTSIDE;
        }
        for (int last = time + n; time < last;) {
            time++;
            tellIf(every > 0 && (time - timerBegan) % every == 0, 1);
            tellIf(soundEnds[0] == time, 2);
            tellIf(soundEnds[1] == time, 3);
        }
        return events.size();
    }

    int event() {
        return events.isEmpty() ? 0 : events.remove();
    }

    int told(int what) {
        int[] all = {open.size(), current, files.size(), references.size(), changed, time, lost, fault};
        return what < 0 || what > 7 ? OUTSIDE : all[what];
    }

    int share() {
        return put / dropped;
    }

    private void tellIf(boolean due, int event) {
        if (due && events.size() == 8) {
            lost++;
        } else if (due) {
            events.add(event);
        }
    }
}
