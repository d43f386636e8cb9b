/**
 * Streams of a story's host, with the rows, files, signs, dates and events
 * that go with them. The numbered promises stand in ../shared/DOC.md; the
 * words in capitals here are that document's.
 */
public final class GlkStreams {
    public static final int NONE = -1, UNKNOWN = -2, OUTSIDE = -3, STATE = -4, FULL = -5;
    public static final long REFUSED = Long.MIN_VALUE;

    private static final int NULL = 1, CAST = 2, INDEX = 3, SIZE = 4, STORE = 5;
    /** A FAULT is answered as this less its number. */
    private static final int FAULT_BASE = -10;

    private static final int NOTHING = 0, BYTES = 1, INTS = 2, REFERENCES = 3, TEMPORARY = 4;
    private static final int WRITE = 1, READ = 2, BOTH = 3, APPEND = 5;
    private static final int PANE = 0, MEMORY = 1, FILE = 2, RESOURCE = 3;

    private static final int DONE = 1;
    /** What a STREAM's write tells of a SIGN that it counts, but keeps nowhere. */
    private static final int DROPPED = 0;

    private static final int ROWS = 8;
    private static final int MOST_ITEMS = 40;
    private static final int MOST_STREAMS = 8;
    private static final int MOST_RESOURCES = 4;
    private static final int MOST_REFERENCES = 20;
    private static final int MOST_FILES = 6;
    private static final int FILE_BYTES = 60;
    private static final int WIDE_SIGN_BYTES = 4;
    private static final int LAST_USE = 3;
    private static final int SIGNS_SHOWN = 20;
    private static final int NAME_LENGTH = 8;
    private static final int MOST_EVENTS = 8;
    private static final int CHANNELS = 2;
    private static final int MOST_TICKS = 1000;

    private static final int LAST_SIGN = 1114111;
    private static final int LAST_BYTE = 255;
    private static final int LOWEST_21_BITS = 0x1FFFFF;
    /** Stands for what a STREAM cannot tell: a question mark. */
    private static final int STAND_IN = 63;
    private static final String UNSAFE = "/\\<>:\"|?*";

    private static final int SMALL_Y_DIAERESIS = 255, GREAT_Y_DIAERESIS = 376;
    private static final int FINAL_SIGMA = 962, GREAT_SIGMA = 931;

    private static final long MOST_SECONDS = 100000000000000L;
    private static final long DAY_SECONDS = 86400L;
    private static final long DAYS_OF_400_YEARS = 146097L;
    /** Days from 1 March of the year 0 to the beginning of 1970. */
    private static final long DAYS_BEFORE_1970 = 719468L;
    private static final int THURSDAY = 4;

    private final Items[] rows;
    private final Items[] given;
    private final Stream[] streams;
    private final Reference[] references;
    private final NameAtHand nameAtHand;
    private final Chimes chimes;
    private Stream currentStream;
    private int lastNumber;
    private int referenceCount;
    private int filesThere;
    private int signsPut;
    private int signsDropped;
    private int latestFault;

    public GlkStreams() {
        rows = new Items[ROWS];
        given = new Items[MOST_RESOURCES];
        streams = new Stream[MOST_STREAMS];
        references = new Reference[MOST_REFERENCES];
        nameAtHand = new NameAtHand();
        chimes = new Chimes();
    }

    // ---- rows

    public int row(int r, int sort, int n) {
        if (!isRow(r)) {
            return UNKNOWN;
        }
        if (!within(sort, NOTHING, TEMPORARY)) {
            return OUTSIDE;
        }
        if (sort == NOTHING) {
            rows[r] = null;
            return DONE;
        }
        if (n > MOST_ITEMS) {
            return OUTSIDE;
        }
        if (n < 0) {
            return faulted(SIZE);
        }
        rows[r] = new Items(sort, n);
        return DONE;
    }

    public int lend(int r, int from) {
        if (!isRow(r) || !isRow(from)) {
            return UNKNOWN;
        }
        rows[r] = rows[from];
        return DONE;
    }

    public int set(int r, int sort, int k, int v) {
        int refusal = refusalOfNumberAt(r, sort, k);
        if (refusal != 0) {
            return refusal;
        }
        rows[r].values[k] = sort == BYTES ? (byte) v : v;
        return DONE;
    }

    public long item(int r, int sort, int k) {
        int refusal = refusalOfNumberAt(r, sort, k);
        if (refusal != 0) {
            return REFUSED - refusal;
        }
        return rows[r].values[k];
    }

    public int hold(int r, int k, int reference) {
        if (!isRow(r) || (reference != NONE && !isReference(reference))) {
            return UNKNOWN;
        }
        Items items = rows[r];
        int fault = faultAt(items, REFERENCES, k);
        if (fault == 0 && !mayStore(items, reference)) {
            fault = STORE;
        }
        if (fault != 0) {
            return faulted(fault);
        }
        items.values[k] = reference;
        return DONE;
    }

    public int held(int r, int k) {
        if (!isRow(r)) {
            return UNKNOWN;
        }
        Items items = rows[r];
        int fault = faultAt(items, REFERENCES, k);
        if (fault != 0) {
            return faulted(fault);
        }
        int reference = items.values[k];
        return reference == NONE ? faulted(NULL) : reference;
    }

    public int copy(int r, int at, int s, int to, int n) {
        if (!isRow(r) || !isRow(s)) {
            return UNKNOWN;
        }
        Items source = rows[r];
        Items target = rows[s];
        if (source == null || target == null) {
            return faulted(NULL);
        }
        if (!source.isLike(target)) {
            return faulted(STORE);
        }
        if (!source.hasSpan(at, n) || !target.hasSpan(to, n)) {
            return faulted(INDEX);
        }
        // Only TEMPORARY rows refuse items, and what goes before such an item stays gone.
        int going = storable(source, at, target, n);
        System.arraycopy(source.values, at, target.values, to, going);
        return going < n ? faulted(STORE) : DONE;
    }

    private static boolean isRow(int r) {
        return within(r, 0, ROWS - 1);
    }

    /** 0, or what refuses item k of a ROW as a byte or an int. */
    private int refusalOfNumberAt(int r, int sort, int k) {
        if (!isRow(r)) {
            return UNKNOWN;
        }
        if (sort != BYTES && sort != INTS) {
            return OUTSIDE;
        }
        int fault = faultAt(rows[r], sort, k);
        return fault == 0 ? 0 : faulted(fault);
    }

    /** 0, or the FAULT of item k; NOTHING may be CAST to every SORT, so NULL and CAST exclude each other. */
    private static int faultAt(Items items, int sort, int k) {
        if (items == null) {
            return NULL;
        }
        if (!items.isOf(sort)) {
            return CAST;
        }
        return items.hasItem(k) ? 0 : INDEX;
    }

    private boolean mayStore(Items items, int reference) {
        if (items.sort != TEMPORARY || !isReference(reference)) {
            return true;
        }
        return references[reference].temporary;
    }

    /** How many of n items go before the first one that the target must not hold. */
    private int storable(Items source, int at, Items target, int n) {
        if (target.sort != TEMPORARY) {
            return n;
        }
        int count = 0;
        while (count < n && mayStore(target, source.values[at + count])) {
            count++;
        }
        return count;
    }

    private int faulted(int fault) {
        latestFault = fault;
        return FAULT_BASE - fault;
    }

    private static boolean isFault(int answer) {
        return answer < FAULT_BASE;
    }

    // ---- streams

    public int pane() {
        return admit(new Pane());
    }

    public int memory(int r, int n, int mode, boolean wide) {
        if (!isRow(r)) {
            return UNKNOWN;
        }
        if (!within(mode, WRITE, BOTH) || !within(n, 0, MOST_ITEMS)) {
            return OUTSIDE;
        }
        return admit(new Memory(rows[r], n, mode, wide));
    }

    public int open(int reference, int mode, boolean wide) {
        if (!isReference(reference)) {
            return UNKNOWN;
        }
        if (!within(mode, WRITE, BOTH) && mode != APPEND) {
            return OUTSIDE;
        }
        StoryFile file = references[reference].file;
        if ((mode == READ && !file.there) || isInTheWay(file, mode)) {
            return STATE;
        }
        if (freeSlot() == NONE || (!file.there && filesThere >= MOST_FILES)) {
            return FULL;
        }
        if (!file.there) {
            file.make();
            filesThere++;
        }
        return admit(new FileStream(file, mode, wide));
    }

    public int resource(int number, boolean wide) {
        if (!isResource(number) || given[number] == null) {
            return UNKNOWN;
        }
        return admit(new ResourceStream(given[number], wide));
    }

    public int give(int number, int r) {
        if (!isResource(number) || !isRow(r)) {
            return UNKNOWN;
        }
        Items items = rows[r];
        if (items == null) {
            return faulted(NULL);
        }
        if (!items.isOf(BYTES) && !items.isOf(INTS)) {
            return faulted(CAST);
        }
        given[number] = items.signs();
        return items.values.length;
    }

    public int put(int stream, int c) {
        Stream s = streamOf(stream);
        if (s == null) {
            return UNKNOWN;
        }
        return putAndEcho(s, c);
    }

    public int get(int stream) {
        Stream s = streamOf(stream);
        if (s == null) {
            return UNKNOWN;
        }
        if (!s.mayGet()) {
            return STATE;
        }
        if (s.place >= s.end()) {
            return NONE;
        }
        int got = s.read();
        if (isFault(got)) {
            return faulted(FAULT_BASE - got);
        }
        s.place++;
        s.got++;
        return got;
    }

    public int seek(int stream, int at, int from) {
        Stream s = streamOf(stream);
        if (s == null) {
            return UNKNOWN;
        }
        if (!within(from, 0, 2)) {
            return OUTSIDE;
        }
        if (s.kind == PANE) {
            return STATE;
        }
        int end = s.end();
        long base = from == 0 ? 0 : from == 1 ? s.place : end;
        s.place = (int) Math.max(0L, Math.min(base + at, end));
        return s.place;
    }

    public int close(int stream) {
        int slot = slotOf(stream);
        if (slot == NONE) {
            return UNKNOWN;
        }
        Stream closed = streams[slot];
        streams[slot] = null;
        if (currentStream == closed) {
            currentStream = null;
        }
        for (Stream s : streams) {
            if (s != null && s.echo == closed) {
                s.echo = null;
            }
        }
        return closed.put;
    }

    public int about(int stream, int what) {
        Stream s = streamOf(stream);
        if (s == null) {
            return UNKNOWN;
        }
        switch (what) {
            case 0: return s.kind;
            case 1: return s.place;
            case 2: return s.end();
            case 3: return s.put;
            case 4: return s.got;
            case 5: return s.mode;
            case 6: return s.wide ? 1 : 0;
            case 7: return numberOf(s.echo);
            default: return OUTSIDE;
        }
    }

    public int shown(int stream, int i) {
        Stream s = streamOf(stream);
        if (s == null) {
            return UNKNOWN;
        }
        if (s instanceof Pane p) {
            return p.latest(i);
        }
        return STATE;
    }

    public int echo(int stream, int to) {
        Stream s = streamOf(stream);
        Stream target = streamOf(to);
        if (s == null || (target == null && to != 0)) {
            return UNKNOWN;
        }
        if (s.kind != PANE) {
            return STATE;
        }
        if (leadsTo(target, s)) {
            return 0;
        }
        s.echo = target;
        return DONE;
    }

    public int current(int stream) {
        Stream s = streamOf(stream);
        if (s == null && stream != 0) {
            return UNKNOWN;
        }
        int before = numberOf(currentStream);
        currentStream = s;
        return before;
    }

    public int say(int c) {
        if (!isSign(c)) {
            return OUTSIDE;
        }
        if (currentStream == null) {
            return STATE;
        }
        return putAndEcho(currentStream, c);
    }

    private int freeSlot() {
        for (int i = 0; i < MOST_STREAMS; i++) {
            if (streams[i] == null) {
                return i;
            }
        }
        return NONE;
    }

    private int slotOf(int number) {
        for (int i = 0; i < MOST_STREAMS; i++) {
            if (streams[i] != null && streams[i].number == number) {
                return i;
            }
        }
        return NONE;
    }

    private Stream streamOf(int number) {
        int slot = slotOf(number);
        return slot == NONE ? null : streams[slot];
    }

    private static int numberOf(Stream s) {
        return s == null ? 0 : s.number;
    }

    private int admit(Stream s) {
        int slot = freeSlot();
        if (slot == NONE) {
            return FULL;
        }
        lastNumber++;
        s.number = lastNumber;
        streams[slot] = s;
        return lastNumber;
    }

    /** A FILE's writer stands alone; its readers only beside one another. */
    private boolean isInTheWay(StoryFile file, int mode) {
        for (Stream s : streams) {
            if (s instanceof FileStream f && f.file == file && (mode != READ || f.mode != READ)) {
                return true;
            }
        }
        return false;
    }

    private static boolean isResource(int number) {
        return within(number, 0, MOST_RESOURCES - 1);
    }

    private int putAndEcho(Stream first, int c) {
        if (!isSign(c)) {
            return OUTSIDE;
        }
        int answer = putInto(first, c);
        Stream s = first.echo;
        // Only PANES have an ECHO and there are no rings, so that a FAULT ends the chain by itself.
        for (int i = 0; i < MOST_STREAMS && s != null; i++) {
            int answerThere = putInto(s, c);
            if (isFault(answerThere)) {
                answer = answerThere;
            }
            s = s.echo;
        }
        return answer;
    }

    private int putInto(Stream s, int c) {
        if (s.mode == READ) {
            return STATE;
        }
        int written = s.write(s.narrowed(c));
        if (isFault(written)) {
            return faulted(FAULT_BASE - written);
        }
        if (written == FULL) {
            return FULL;
        }
        if (written == DROPPED) {
            signsDropped++;
        }
        s.put++;
        signsPut++;
        return DONE;
    }

    private static boolean leadsTo(Stream from, Stream pane) {
        Stream s = from;
        for (int i = 0; i < MOST_STREAMS && s != null; i++) {
            if (s == pane) {
                return true;
            }
            s = s.echo;
        }
        return false;
    }

    // ---- files

    public int name(int c) {
        if (!isSign(c)) {
            return OUTSIDE;
        }
        nameAtHand.collect(c);
        return nameAtHand.text.length();
    }

    public int file(int use) {
        if (!isUse(use)) {
            return OUTSIDE;
        }
        if (nameAtHand.text.length() == 0) {
            nameAtHand.begin();
            return STATE;
        }
        if (referenceCount >= MOST_REFERENCES) {
            return FULL;
        }
        String safe = nameAtHand.text.toString();
        nameAtHand.begin();
        return refer(new Reference(use, safe, false, fileNamed(use, safe)));
    }

    public int temporary(int use) {
        if (!isUse(use)) {
            return OUTSIDE;
        }
        if (referenceCount >= MOST_REFERENCES) {
            return FULL;
        }
        return refer(new Reference(use, "", true, new StoryFile()));
    }

    public int exists(int reference) {
        if (!isReference(reference)) {
            return UNKNOWN;
        }
        StoryFile file = references[reference].file;
        return file.there ? file.length : NONE;
    }

    public int drop(int reference) {
        if (!isReference(reference)) {
            return UNKNOWN;
        }
        StoryFile file = references[reference].file;
        // A writer would not bear any other STREAM: so all that are open on it stand in the way.
        if (isInTheWay(file, WRITE)) {
            return STATE;
        }
        if (!file.there) {
            return 0;
        }
        file.there = false;
        filesThere--;
        return DONE;
    }

    private static boolean isUse(int use) {
        return within(use, 0, LAST_USE);
    }

    private boolean isReference(int reference) {
        return within(reference, 0, referenceCount - 1);
    }

    private int refer(Reference reference) {
        references[referenceCount] = reference;
        referenceCount++;
        return referenceCount - 1;
    }

    /** The FILE that an earlier REFERENCE names so, or a new one, which is not there yet. */
    private StoryFile fileNamed(int use, String name) {
        for (int i = 0; i < referenceCount; i++) {
            Reference earlier = references[i];
            if (!earlier.temporary && earlier.use == use && earlier.name.equals(name)) {
                return earlier.file;
            }
        }
        return new StoryFile();
    }

    // ---- signs, dates, events

    public int upper(int c) {
        if (!isSign(c)) {
            return NONE;
        }
        if (c == SMALL_Y_DIAERESIS) {
            return GREAT_Y_DIAERESIS;
        }
        if (c == FINAL_SIGMA) {
            return GREAT_SIGMA;
        }
        return c - caseDistance(c);
    }

    public int lower(int c) {
        if (!isSign(c)) {
            return NONE;
        }
        if (c == GREAT_Y_DIAERESIS) {
            return SMALL_Y_DIAERESIS;
        }
        if (caseDistance(c + 32) == 32) {
            return c + 32;
        }
        if (caseDistance(c + 80) == 80) {
            return c + 80;
        }
        return caseDistance(c + 1) == 1 ? c + 1 : c;
    }

    public int date(long seconds, int what) {
        if (!within(what, 0, 6) || seconds < -MOST_SECONDS || seconds > MOST_SECONDS) {
            return OUTSIDE;
        }
        long days = Math.floorDiv(seconds, DAY_SECONDS);
        int secondOfDay = (int) Math.floorMod(seconds, DAY_SECONDS);
        switch (what) {
            case 3: return (int) Math.floorMod(days + THURSDAY, 7L);
            case 4: return secondOfDay / 3600;
            case 5: return secondOfDay / 60 % 60;
            case 6: return secondOfDay % 60;
            default: return calendarPart(days, what);
        }
    }

    public int timer(int every) {
        if (!within(every, 0, MOST_TICKS)) {
            return OUTSIDE;
        }
        int before = chimes.every;
        chimes.every = every;
        chimes.timerLeft = every;
        return before;
    }

    public int sound(int channel, int ticks) {
        if (!within(channel, 0, CHANNELS - 1) || !within(ticks, 0, MOST_TICKS)) {
            return OUTSIDE;
        }
        int before = chimes.soundLeft[channel];
        chimes.soundLeft[channel] = ticks;
        return before;
    }

    public int tick(int n) {
        if (!within(n, 0, MOST_TICKS)) {
            return OUTSIDE;
        }
        for (int i = 0; i < n; i++) {
            chimes.passTick();
        }
        return chimes.count;
    }

    public int event() {
        return chimes.takeEldest();
    }

    public int told(int what) {
        switch (what) {
            case 0: return openStreams();
            case 1: return numberOf(currentStream);
            case 2: return filesThere;
            case 3: return referenceCount;
            case 4: return nameAtHand.changed;
            case 5: return chimes.time;
            case 6: return chimes.lost;
            case 7: return latestFault;
            default: return OUTSIDE;
        }
    }

    public int share() throws ArithmeticException {
        if (signsDropped == 0) {
            throw new ArithmeticException("no sign was dropped");
        }
        return signsPut / signsDropped;
    }

    private static boolean within(int number, int first, int last) {
        return number >= first && number <= last;
    }

    private static boolean isSign(int c) {
        return within(c, 0, LAST_SIGN);
    }

    /** An int as GOT. */
    private static int signOf(int number) {
        int lowest = number & LOWEST_21_BITS;
        return isSign(lowest) ? lowest : STAND_IN;
    }

    /** How far a small sign's great one is below it; 0: it is not small, or its great one is told apart. */
    private static int caseDistance(int c) {
        if (within(c, 'a', 'z') || (within(c, 224, 254) && c != 247)) {
            return 32;
        }
        if ((within(c, 945, 969) && c != FINAL_SIGMA) || within(c, 1072, 1103)) {
            return 32;
        }
        if (within(c, 1104, 1119)) {
            return 80;
        }
        return within(c, 257, 303) && c % 2 == 1 ? 1 : 0;
    }

    /** Year (0), month (1) or day (2) of a day since 1970. */
    private static int calendarPart(long days, int what) {
        // Years that begin in March have the leap day at their end, and months of a steady rhythm before it.
        long sinceMarch = days + DAYS_BEFORE_1970;
        long rounds = Math.floorDiv(sinceMarch, DAYS_OF_400_YEARS);
        int day = (int) Math.floorMod(sinceMarch, DAYS_OF_400_YEARS);
        int year = (day - day / 1460 + day / 36524 - day / 146096) / 365;
        int dayOfYear = day - (365 * year + year / 4 - year / 100);
        int monthFromMarch = (5 * dayOfYear + 2) / 153;
        int month = monthFromMarch < 10 ? monthFromMarch + 3 : monthFromMarch - 9;
        if (what == 1) {
            return month;
        }
        if (what == 2) {
            return dayOfYear - (153 * monthFromMarch + 2) / 5 + 1;
        }
        int fullYear = (int) (rounds * 400) + year + (month <= 2 ? 1 : 0);
        // So that no year looks like a refusal.
        return fullYear < 0 ? fullYear - 10 : fullYear;
    }

    private int openStreams() {
        int count = 0;
        for (Stream s : streams) {
            if (s != null) {
                count++;
            }
        }
        return count;
    }

    /** An array of a SORT; REFERENCES are kept by number, NONE for NOTHING. */
    private static final class Items {
        final int sort;
        final int[] values;

        Items(int sort, int n) {
            this.sort = sort;
            this.values = new int[n < 0 ? 0 : n];
            if (sort == REFERENCES || sort == TEMPORARY) {
                for (int i = 0; i < values.length; i++) {
                    values[i] = NONE;
                }
            }
        }

        boolean isOf(int other) {
            return sort == other || (sort == TEMPORARY && other == REFERENCES);
        }

        boolean isLike(Items other) {
            return isOf(other.sort) || other.isOf(sort);
        }

        boolean hasItem(int k) {
            return k >= 0 && k < values.length;
        }

        boolean hasSpan(int at, int n) {
            return at >= 0 && n >= 0 && at <= values.length && n <= values.length - at;
        }

        int signAt(int k) {
            return sort == BYTES ? values[k] & LAST_BYTE : signOf(values[k]);
        }

        Items signs() {
            Items taken = new Items(INTS, values.length);
            for (int i = 0; i < values.length; i++) {
                taken.values[i] = signAt(i);
            }
            return taken;
        }
    }

    private static final class StoryFile {
        final byte[] bytes;
        int length;
        boolean there;

        StoryFile() {
            bytes = new byte[FILE_BYTES];
        }

        void make() {
            there = true;
            length = 0;
        }
    }

    private static final class Reference {
        final int use;
        final String name;
        final boolean temporary;
        final StoryFile file;

        Reference(int use, String name, boolean temporary, StoryFile file) {
            this.use = use;
            this.name = name;
            this.temporary = temporary;
            this.file = file;
        }
    }

    private static final class NameAtHand {
        final StringBuilder text;
        boolean dotSeen;
        int changed;

        NameAtHand() {
            text = new StringBuilder();
        }

        void begin() {
            text.setLength(0);
            dotSeen = false;
        }

        void collect(int c) {
            if (c == '.') {
                dotSeen = true;
            }
            if (dotSeen || isUnsafe(c)) {
                changed++;
            } else if (text.length() < NAME_LENGTH) {
                text.append((char) c);
            }
        }

        private static boolean isUnsafe(int c) {
            return !within(c, 32, 126) || UNSAFE.indexOf((char) c) >= 0;
        }
    }

    private abstract static class Stream {
        final int kind;
        final int mode;
        final boolean wide;
        int number;
        int place;
        int put;
        int got;
        Stream echo;

        Stream(int kind, int mode, boolean wide) {
            this.kind = kind;
            this.mode = mode;
            this.wide = wide;
        }

        abstract int end();

        /** Writes a SIGN that is narrowed already: DONE, DROPPED, FULL, or a FAULT's answer. */
        abstract int write(int c);

        /** The SIGN at the PLACE, which is before the END, or a FAULT's answer. */
        abstract int read();

        boolean mayGet() {
            return mode == READ || mode == BOTH;
        }

        int narrowed(int c) {
            return wide || c <= LAST_BYTE ? c : STAND_IN;
        }
    }

    /** It shows SIGNS as they are put, so it counts as WIDE. */
    private static final class Pane extends Stream {
        private final int[] signs;
        private int next;
        private int kept;

        Pane() {
            super(PANE, WRITE, true);
            signs = new int[SIGNS_SHOWN];
        }

        int end() {
            return 0;
        }

        int write(int c) {
            signs[next] = c;
            next = (next + 1) % SIGNS_SHOWN;
            kept = Math.min(kept + 1, SIGNS_SHOWN);
            return DONE;
        }

        int read() {
            return NONE;
        }

        int latest(int i) {
            if (i < 0 || i >= kept) {
                return NONE;
            }
            return signs[(next - 1 - i + SIGNS_SHOWN) % SIGNS_SHOWN];
        }
    }

    private static final class Memory extends Stream {
        private final Items items;
        private final int size;

        Memory(Items items, int size, int mode, boolean wide) {
            super(MEMORY, mode, wide);
            this.items = items;
            this.size = size;
        }

        int end() {
            return size;
        }

        int write(int c) {
            // At the END no item is touched, so the array does not matter there.
            if (place >= size) {
                return DROPPED;
            }
            int fault = faultHere();
            if (fault != 0) {
                return FAULT_BASE - fault;
            }
            items.values[place] = wide ? c : (byte) c;
            place++;
            return DONE;
        }

        int read() {
            int fault = faultHere();
            return fault != 0 ? FAULT_BASE - fault : items.signAt(place);
        }

        private int faultHere() {
            return faultAt(items, wide ? INTS : BYTES, place);
        }
    }

    private static final class FileStream extends Stream {
        final StoryFile file;
        private final int width;

        FileStream(StoryFile file, int mode, boolean wide) {
            super(FILE, mode, wide);
            this.file = file;
            this.width = wide ? WIDE_SIGN_BYTES : 1;
            if (mode == WRITE) {
                file.length = 0;
            }
            if (mode == APPEND) {
                place = wholeSigns();
                file.length = place * width;
            }
        }

        int end() {
            return wholeSigns();
        }

        private int wholeSigns() {
            return wide ? file.length / WIDE_SIGN_BYTES : file.length;
        }

        int write(int c) {
            int from = place * width;
            if (from < 0 || from + width > FILE_BYTES) {
                return FULL;
            }
            for (int i = 0; i < width; i++) {
                file.bytes[from + i] = (byte) (c >> 8 * (width - 1 - i));
            }
            file.length = Math.max(file.length, from + width);
            place++;
            return DONE;
        }

        int read() {
            int from = place * width;
            if (from < 0 || from + width > FILE_BYTES) {
                return NONE;
            }
            int number = 0;
            for (int i = 0; i < width; i++) {
                number = number << 8 | file.bytes[from + i] & LAST_BYTE;
            }
            return signOf(number);
        }
    }

    private static final class ResourceStream extends Stream {
        private final Items signs;

        ResourceStream(Items signs, boolean wide) {
            super(RESOURCE, READ, wide);
            this.signs = signs;
        }

        int end() {
            return signs.values.length;
        }

        int write(int c) {
            return STATE;
        }

        int read() {
            return signs.hasItem(place) ? narrowed(signs.values[place]) : NONE;
        }
    }

    /** TIME, THE TIMER, the CHANNELS and the EVENTS that they told. */
    private static final class Chimes {
        int time;
        int every;
        int timerLeft;
        final int[] soundLeft;
        int count;
        int lost;
        private final int[] events;

        Chimes() {
            soundLeft = new int[CHANNELS];
            events = new int[MOST_EVENTS];
        }

        void passTick() {
            time++;
            if (every > 0) {
                timerLeft--;
                if (timerLeft <= 0) {
                    timerLeft = every;
                    tell(1);
                }
            }
            for (int channel = 0; channel < CHANNELS; channel++) {
                if (soundLeft[channel] > 0) {
                    soundLeft[channel]--;
                    if (soundLeft[channel] == 0) {
                        tell(2 + channel);
                    }
                }
            }
        }

        private void tell(int event) {
            if (count >= MOST_EVENTS) {
                lost++;
                return;
            }
            events[count] = event;
            count++;
        }

        int takeEldest() {
            if (count == 0) {
                return 0;
            }
            int eldest = events[0];
            count--;
            for (int i = 0; i < count; i++) {
                events[i] = events[i + 1];
            }
            return eldest;
        }
    }
}
