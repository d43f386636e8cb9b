/** Streams as they are opened: the terms and promises 9 to 13, on both sides of each edge that they name. */
public final class OpeningEdgesTest {
    private static final String[] OPENERS = {"pane()", "memory(0, 1, 1, false)", "open(0, 2, false)",
        "resource(0, true)"};
    /** Row 0 holds bytes, resource 0 has them, and file 0 is there; stream 1 has been. */
    private static final String ALL_KINDS =
        "row(0, 1, 3); give(0, 0) = 3; name(97); file(0) = 0; open(0, 1, false) = 1; put(1, 65); put(1, 66)"
        + "; close(1) = 2";
    private static final String NAMED = "name(97); file(0) = 0";
    private static final int WRITE = 1, READ = 2, BOTH = 3, APPEND = 5;
    private static final int[] MODES = {WRITE, READ, BOTH, APPEND};

    public static void main(String[] args) {
        eightAreOpenAtMost();
        numbersAreNeverGivenAgain();
        paneIsWritten();
        memoryItems();
        memoryModes();
        memoryKeepsItsArray();
        memoryWithoutAnArray();
        fileModes();
        fileIsMade();
        appendBeginsAtItsEnd();
        anotherStreamIsInTheWay();
        manyReaders();
        sixFiles();
        resources();
        resourceNarrow();
        givenAsTheyAreNow();
        givenAsGot();
        givenNeither();
        Due.end();
    }

    private static void eightAreOpenAtMost() {
        for (String opener : OPENERS) {
            for (String other : OPENERS) {
                Run run = Run.of("T: 8 are open at most", ALL_KINDS);
                for (int i = 2; i <= 8; i++) {
                    run.then(other + " = " + i);
                }
                run.then("told(0) = 7", opener + " = 9", "told(0) = 8", opener + " = FULL", "told(0) = 8",
                    "about(9, 1) = 0",
                    "close(5) = 0", "told(0) = 7", opener + " = 10", "told(0) = 8", opener + " = FULL",
                    "about(10, 3) = 0");
            }
        }
    }

    private static void numbersAreNeverGivenAgain() {
        String sentence = "T: STREAMS have numbers 1, 2, .. as they are opened, that are never given again";
        for (String opener : OPENERS) {
            Run.of(sentence, ALL_KINDS, opener + " = 2; close(2) = 0", opener + " = 3; close(3) = 0",
                "about(2, 0) = UNKNOWN; about(3, 0) = UNKNOWN; about(4, 0) = UNKNOWN", opener + " = 4");
        }
        Run.of(sentence + ": a refused one takes none", ALL_KINDS, "memory(0, 41, 1, true) = OUTSIDE",
            "memory(8, 1, 1, true) = UNKNOWN",
            "open(1, 1, true) = UNKNOWN; open(0, 4, true) = OUTSIDE; resource(1, true) = UNKNOWN; pane() = 2",
            "open(0, 1, true) = 3; open(0, 2, true) = STATE; pane() = 4; pane() = 5; pane() = 6; pane() = 7",
            "pane() = 8; pane() = 9",
            "pane() = FULL # 5; close(9) = 0; pane() = 10");
        Run run = Run.of("An object is used for at most 512 calls");
        for (int i = 1; i <= 256; i++) {
            run.then("pane() = " + i, "close(" + i + ") = 0");
        }
    }

    private static void paneIsWritten() {
        Run.of("T: A PANE (WRITE)", "pane() = 1; about(1, 0) = 0; about(1, 5) = 1; put(1, 65) = 1; get(1) = STATE");
        Run.of("18: PLACE (0 of a PANE), END (0)", "pane() = 1; put(1, 65) = 1 # 30; about(1, 1) = 0; about(1, 2) = 0");
    }

    private static void memoryItems() {
        String sentence = "10: of n items (0 to 40)";
        for (int n : new int[] {0, 1, 39, 40}) {
            Run.of(sentence, "row(0, 1, 1); memory(0, " + n + ", 1, false) = 1; about(1, 2) = " + n, "about(1, 1) = 0");
        }
        for (String n : new String[] {"-1", "41", "MIN", "MAX"}) {
            Run.of(sentence, "row(0, 1, 1); memory(0, " + n + ", 1, false) = OUTSIDE; told(0) = 0; told(7) = 0",
                "pane() = 1");
        }
        Run.of("T: of n items (its END, whatever the array has)", "row(0, 1, 3); memory(0, 2, 1, false) = 1",
            "about(1, 2) = 2",
            "memory(0, 3, 1, false) = 2; about(2, 2) = 3; memory(0, 4, 1, false) = 3; about(3, 2) = 4; told(7) = 0");
    }

    private static void memoryModes() {
        for (String mode : new String[] {"MIN", "-1", "0", "1", "2", "3", "4", "5", "6", "MAX"}) {
            boolean is = mode.equals("1") || mode.equals("2") || mode.equals("3");
            Run.of("T: MEMORY (not APPEND); 10: OUTSIDE: mode", "row(0, 1, 1)",
                "memory(0, 1, " + mode + ", false) = " + (is ? "1" : "OUTSIDE"),
                "about(1, 5) = " + (is ? mode : "UNKNOWN"));
        }
        Run.of("10: wide", "memory(0, 1, 1, false) = 1; memory(0, 1, 1, true) = 2; about(1, 6) = 0; about(2, 6) = 1");
    }

    private static void memoryKeepsItsArray() {
        String sentence = "T: over the array that a ROW holds as it is opened (it keeps that one)";
        Run.of(sentence, "row(0, 1, 2); lend(1, 0); memory(0, 2, 3, false) = 1; row(0, 1, 2); put(1, 65) = 1",
            "item(0, 1, 0) = 0",
            "item(1, 1, 0) = 65; row(0, 0, 0); put(1, 66) = 1; item(1, 1, 1) = 66");
        Run.of(sentence, "row(0, 1, 2); memory(0, 2, 3, false) = 1; row(0, 2, 2); put(1, 65) = 1; item(0, 2, 0) = 0",
            "seek(1, 0, 0) = 0; get(1) = 65");
        Run.of(sentence + ": or NOTHING", "memory(0, 2, 3, false) = 1; row(0, 1, 2); put(1, 65) = NULL; get(1) = NULL",
            "item(0, 1, 0) = 0");
        Run.of(sentence + ": what is set there is got", "row(0, 1, 2); memory(0, 2, 3, false) = 1; set(0, 1, 1, 9)",
            "get(1) = 0; get(1) = 9");
    }

    private static void memoryWithoutAnArray() {
        Run.of("T: WITHOUT an array: NULL, as it is put, or got", "memory(0, 1, 3, false) = 1; told(7) = 0",
            "put(1, 65) = NULL; told(7) = 1",
            "memory(1, 1, 3, true) = 2; get(2) = NULL; about(1, 3) = 0; about(2, 4) = 0; about(1, 1) = 0",
            "about(2, 1) = 0");
        Run.of("T: an END beyond the array: INDEX, as it is put, or got", "row(0, 1, 1); memory(0, 2, 3, false) = 1",
            "told(7) = 0",
            "put(1, 65) = 1; put(1, 66) = INDEX; told(7) = 3; get(1) = INDEX; about(1, 1) = 1");
        Run.of("T: CAST, as it is put, or got", "row(0, 3, 1); memory(0, 1, 3, false) = 1; told(7) = 0",
            "put(1, 65) = CAST; told(7) = 2",
            "get(1) = CAST");
    }

    private static void fileModes() {
        for (String mode : new String[] {"MIN", "-1", "0", "1", "2", "3", "4", "5", "6", "MAX"}) {
            boolean is = "1235".contains(mode);
            Run.of("11: OUTSIDE: mode", ALL_KINDS, "open(0, " + mode + ", false) = " + (is ? "2" : "OUTSIDE"),
                "about(2, 5) = " + (is ? mode : "UNKNOWN"), "exists(0) = " + (mode.equals("1") ? 0 : 2));
        }
        for (String reference : new String[] {"-1", "1", "19", "20", "MIN", "MAX"}) {
            Run.of("11: UNKNOWN", ALL_KINDS, "open(" + reference + ", 1, false) = UNKNOWN; told(0) = 0",
                "open(0, 1, false) = 2");
        }
    }

    private static void fileIsMade() {
        for (int mode : new int[] {WRITE, BOTH, APPEND}) {
            for (String wide : new String[] {"false", "true"}) {
                Run.of("T: WRITE, BOTH, APPEND: it is made, if it is not there", NAMED, "told(2) = 0; exists(0) = NONE",
                    "open(0, " + mode + ", " + wide + ") = 1; told(2) = 1; exists(0) = 0; about(1, 1) = 0",
                    "about(1, 2) = 0");
            }
        }
        Run.of("T: READ: it must be there", NAMED, "open(0, 2, false) = STATE; told(2) = 0; exists(0) = NONE",
            "told(0) = 0",
            "open(0, 1, false) = 1; close(1); open(0, 2, false) = 2; about(2, 2) = 0; get(2) = NONE");
        Run.of("T: READ: it must be there; it has gone", ALL_KINDS, "open(0, 2, false) = 2; close(2); drop(0) = 1",
            "open(0, 2, false) = STATE");
        Run.of("T: WRITE: it has nothing then", ALL_KINDS, "exists(0) = 2; open(0, 1, false) = 2; exists(0) = 0",
            "about(2, 2) = 0; told(2) = 1");
        for (int mode : new int[] {READ, BOTH, APPEND}) {
            Run.of("T: READ, BOTH, APPEND: it has what it had", ALL_KINDS, "open(0, " + mode + ", false) = 2",
                "exists(0) = 2",
                "about(2, 2) = 2; told(2) = 1; about(2, 3) = 0; about(2, 4) = 0",
                "about(2, 1) = " + (mode == APPEND ? 2 : 0));
        }
        Run.of("T: WRITE begins at 0", ALL_KINDS, "open(0, 1, false) = 2; about(2, 1) = 0; put(2, 67) = 1",
            "exists(0) = 1");
    }

    private static void appendBeginsAtItsEnd() {
        int[] bytes = {0, 1, 3, 4, 5, 7, 8, 59, 60};
        for (int n : bytes) {
            String filled = NAMED + "; open(0, 1, false) = 1" + (n == 0 ? "" : "; put(1, 65) = 1 # " + n)
                + "; close(1) = " + n;
            int whole = n / 4;
            Run.of("T: APPEND begins at its END (bytes of no whole SIGN go then)", filled, "open(0, 5, true) = 2",
                "about(2, 1) = " + whole, "about(2, 2) = " + whole, "exists(0) = " + 4 * whole);
            Run.of("T: APPEND begins at its END", filled, "open(0, 5, false) = 2", "about(2, 1) = " + n,
                "about(2, 2) = " + n,
                "exists(0) = " + n);
            for (int mode : new int[] {READ, BOTH}) {
                Run.of("T: the others at 0; its END is how many SIGNS there are whole", filled,
                    "open(0, " + mode + ", true) = 2",
                    "about(2, 1) = 0", "about(2, 2) = " + whole, "exists(0) = " + n, "close(2) = 0",
                    "exists(0) = " + n);
            }
        }
    }

    private static void anotherStreamIsInTheWay() {
        String sentence = "T: A FILE that a STREAM writes (not READ) has no other one";
        for (int first : MODES) {
            for (int second : MODES) {
                boolean both = first == READ && second == READ;
                String due = both ? "3" : "STATE";
                Run.of(sentence, ALL_KINDS, "name(97); file(0) = 1", "open(0, " + first + ", false) = 2",
                    "open(0, " + second + ", true) = " + due, "close(2) = 0", both ? "close(3) = 0" : "told(0) = 0",
                    "open(1, " + second + ", true) = " + (both ? 4 : 3));
                Run.of(sentence + ", by another REFERENCE", ALL_KINDS, "name(97); file(0) = 1",
                    "open(0, " + first + ", false) = 2",
                    "open(1, " + second + ", true) = " + due);
                Run.of(sentence + "; another FILE has", ALL_KINDS, "name(97); file(1) = 1; name(98); file(0) = 2",
                    "temporary(0) = 3",
                    "open(1, 1, true) = 2; close(2); open(2, 1, true) = 3; close(3); open(3, 1, true) = 4; close(4)",
                    "open(0, " + first + ", false) = 5; open(1, " + second + ", true) = 6",
                    "open(2, " + second + ", true) = 7",
                    "open(3, " + second + ", true) = 8");
            }
        }
        Run.of("11: STATE changes nothing: WRITE leaves what is there", ALL_KINDS,
            "open(0, 2, false) = 2; open(0, 1, false) = STATE",
            "exists(0) = 2; get(2) = 65; open(0, 5, true) = STATE; exists(0) = 2; get(2) = 66");
    }

    private static void manyReaders() {
        Run run = Run.of("T: one that is READ may have several of these", ALL_KINDS);
        for (int i = 2; i <= 9; i++) {
            run.then("open(0, 2, " + (i % 2 == 0) + ") = " + i);
        }
        run.then("get(3) = 65; get(9) = 65; get(9) = 66; get(3) = 66", "open(0, 2, true) = FULL",
            "open(0, 1, true) = STATE");
        for (int i = 2; i <= 8; i++) {
            run.then("close(" + i + ") = 0; open(0, 3, true) = STATE; drop(0) = STATE");
        }
        run.then("close(9) = 0; open(0, 3, true) = 10");
    }

    private static void sixFiles() {
        for (int mode : new int[] {WRITE, BOTH, APPEND}) {
            Run run = Run.of("T: 6 FILES are there at most; 11: FULL: 6 FILES",
                "temporary(0) # 6; name(97); file(0) = 6; temporary(0) = 7");
            for (int i = 0; i < 5; i++) {
                run.then("open(" + i + ", 1, false) = " + (i + 1), "close(" + (i + 1) + ") = 0");
            }
            String made = ", " + mode + ", false)";
            run.then("told(2) = 5", "open(5" + made + " = 6; told(2) = 6; close(6)", "open(6" + made + " = FULL",
                "open(7" + made + " = FULL",
                "told(2) = 6; told(0) = 0; exists(6) = NONE; exists(7) = NONE", "open(5" + made + " = 7; close(7)",
                "drop(2) = 1; told(2) = 5; open(6" + made + " = 8; told(2) = 6; exists(6) = 0; close(8)",
                "open(2" + made + " = FULL; exists(2) = NONE; open(2, 2, false) = STATE");
        }
        Run.of("11: FULL: 8 STREAMS: none is made", NAMED, "pane() # 7; open(0, 1, false) = 8; close(8); drop(0) = 1",
            "pane() = 9",
            "open(0, 1, false) = FULL; open(0, 3, false) = FULL; open(0, 5, false) = FULL; told(2) = 0",
            "exists(0) = NONE");
        Run.of("11: FULL: 8 STREAMS: none has nothing then", ALL_KINDS, "pane() # 8; open(0, 1, false) = FULL",
            "exists(0) = 2",
            "open(0, 5, true) = FULL; exists(0) = 2; close(2); open(0, 5, true) = 10; exists(0) = 0");
    }

    private static void resources() {
        for (String number : new String[] {"-1", "4", "MIN", "MAX"}) {
            Run.of("12, 13: A RESOURCE (0 to 3)", "row(0, 1, 1); give(" + number + ", 0) = UNKNOWN",
                "resource(" + number + ", true) = UNKNOWN",
                "told(0) = 0");
        }
        for (int number = 0; number <= 3; number++) {
            Run run = Run.of("12: UNKNOWN: also if it was given nothing", "row(0, 1, 1); give(" + number + ", 0) = 1");
            for (int other = 0; other <= 3; other++) {
                run.then("resource(" + other + ", true) = " + (other == number ? "1" : "UNKNOWN"));
            }
        }
        Run.of("12: UNKNOWN: a give that is refused gives nothing", "row(0, 3, 1); give(0, 0) = CAST",
            "give(0, 1) = NULL; give(0, 8) = UNKNOWN",
            "resource(0, true) = UNKNOWN");
        Run.of("12: A RESOURCE (READ)", "row(0, 1, 2); give(0, 0) = 2; resource(0, true) = 1; about(1, 0) = 3",
            "about(1, 5) = 2",
            "about(1, 2) = 2; put(1, 65) = STATE; get(1) = 0; get(1) = 0; get(1) = NONE; about(1, 4) = 2");
        Run.of("12: several of one", "row(0, 1, 2); set(0, 1, 1, 9); give(0, 0) = 2; resource(0, true) = 1",
            "resource(0, true) = 2",
            "get(1) = 0; get(1) = 9; get(2) = 0; get(2) = 9");
    }

    private static void resourceNarrow() {
        Run.of("T: those above 255 as 63 where it is not WIDE", "row(0, 2, 4); set(0, 2, 0, 255); set(0, 2, 1, 256)",
            "set(0, 2, 2, 1114111)",
            "set(0, 2, 3, 62); give(0, 0) = 4; resource(0, false) = 1; resource(0, true) = 2; about(1, 6) = 0",
            "about(2, 6) = 1",
            "get(1) = 255; get(1) = 63; get(1) = 63; get(1) = 62; get(1) = NONE",
            "get(2) = 255; get(2) = 256; get(2) = 1114111; get(2) = 62; get(2) = NONE");
    }

    private static void givenAsTheyAreNow() {
        Run.of("13: the items of a ROW, as they are now", "row(0, 1, 2); set(0, 1, 0, 5); give(0, 0) = 2",
            "set(0, 1, 0, 6); resource(0, true) = 1",
            "get(1) = 5; row(0, 1, 1); get(1) = 0; get(1) = NONE");
        Run.of("T: SIGNS that it was given by then", "row(0, 1, 2); set(0, 1, 0, 5); give(0, 0) = 2",
            "resource(0, true) = 1; set(0, 1, 0, 6)",
            "row(1, 2, 1); set(1, 2, 0, 700); give(0, 1) = 1; resource(0, true) = 2; about(1, 2) = 2; about(2, 2) = 1",
            "get(1) = 5; get(1) = 0; get(1) = NONE; get(2) = 700; get(2) = NONE");
        Run.of("13: a FAULT leaves what it was given", "row(0, 1, 2); set(0, 1, 0, 5); give(0, 0) = 2",
            "give(0, 1) = NULL; row(1, 4, 2)",
            "give(0, 1) = CAST; resource(0, true) = 1; about(1, 2) = 2; get(1) = 5");
        for (int n : new int[] {0, 1, 39, 40}) {
            for (int sort = 1; sort <= 2; sort++) {
                Run.of("13: how many", "row(0, " + sort + ", " + n + "); give(0, 0) = " + n + "",
                    "resource(0, true) = 1; about(1, 2) = " + n);
            }
        }
    }

    private static void givenAsGot() {
        String[][] bytes = {{"127", "127"}, {"128", "128"}, {"-1", "255"}, {"-128", "128"}, {"0", "0"}, {"256", "0"}};
        for (String[] pair : bytes) {
            for (String wide : new String[] {"false", "true"}) {
                Run.of("13: of bytes (0 to 255)", "row(0, 1, 1); set(0, 1, 0, " + pair[0] + "); give(0, 0) = 1",
                    "resource(0, " + wide + ") = 1; get(1) = " + pair[1]);
            }
        }
        String[][] ints = {{"1114111", "1114111"}, {"1114112", "63"}, {"2097151", "63"}, {"2097152", "0"},
            {"2097153", "1"},
            {"-1", "63"}, {"MIN", "0"}, {"MAX", "63"}, {"-2097152", "0"}, {"-2097151", "1"}, {"-983040", "63"},
            {"-983041", "1114111"},
            {"3211263", "1114111"}, {"3211264", "63"}};
        for (String[] pair : ints) {
            Run.of("13: ints (as GOT)", "row(0, 2, 1); set(0, 2, 0, " + pair[0] + "); give(0, 0) = 1",
                "resource(0, true) = 1",
                "get(1) = " + pair[1]);
        }
    }

    private static void givenNeither() {
        for (int sort = 0; sort <= 4; sort++) {
            String due = sort == 0 ? "NULL" : sort <= 2 ? "1" : "CAST";
            Run.of("13: FAULTS 1; 2: it holds neither", "row(0, " + sort + ", 1); give(3, 0) = " + due,
                "told(7) = " + (sort == 0 ? 1 : sort <= 2 ? 0 : 2));
        }
        Run.of("13: UNKNOWN before FAULTS", "row(0, 3, 1); give(4, 0) = UNKNOWN; give(-1, 1) = UNKNOWN; told(7) = 0");
    }
}
