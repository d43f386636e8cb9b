/** What is put and got, and where: the terms and promises 14 to 16, on both sides of each edge that they name. */
public final class PuttingEdgesTest {
    private static final String NAMED = "name(97); file(0) = 0";
    /** Bytes 1 to 6 in file 0; stream 1 has been. */
    private static final String SIX = NAMED
        + "; open(0, 1, false) = 1; put(1, 1); put(1, 2); put(1, 3); put(1, 4); put(1, 5); put(1, 6); close(1) = 6";
    /** Ints, and the SIGN that is GOT of each. */
    private static final String[][] GOT = {{"1114111", "1114111"}, {"1114112", "63"}, {"2097151", "63"},
        {"2097152", "0"},
        {"2097153", "1"}, {"-1", "63"}, {"MIN", "0"}, {"MAX", "63"}, {"-2097152", "0"}, {"-983041", "1114111"},
        {"-983040", "63"}, {"0", "0"}, {"255", "255"}, {"256", "256"}};

    public static void main(String[] args) {
        signsAreThese();
        streamsAreThese();
        narrowAbove255();
        memoryAtItsEnd();
        memoryBeyondTheArray();
        memoryCast();
        memoryFaultsInOrder();
        memoryDropsAtItsEnd();
        fileOf60Bytes();
        fileOf15WideSigns();
        fileInPlaceOfWhatIsThere();
        fileHighestFirst();
        fileBytesOfNoWholeSign();
        readIsNotPut();
        onlyReadAndBothAreGot();
        gotOfBytes();
        gotOfInts();
        gotOfWideFiles();
        noneAtItsEnd();
        seekFrom();
        seekNotBelowNorBeyond();
        seekRefuses();
        seekMovesWhatIsPut();
        Due.end();
    }

    private static void signsAreThese() {
        String kinds = NAMED + "; row(0, 2, 2); row(1, 1, 2); pane() = 1; memory(0, 2, 3, true) = 2"
            + "; memory(1, 2, 1, false) = 3"
            + "; open(0, 1, true) = 4; temporary(0) = 1; open(1, 5, false) = 5; memory(0, 2, 2, true) = 6";
        for (int s = 1; s <= 6; s++) {
            String read = s == 6 ? "STATE" : "1";
            for (String c : new String[] {"0", "1114111"}) {
                Run.of("T: SIGNS are 0 to 1114111", kinds, "put(" + s + ", " + c + ") = " + read);
            }
            for (String c : new String[] {"-1", "1114112", "MIN", "MAX"}) {
                Run.of("14: OUTSIDE", kinds, "put(" + s + ", " + c + ") = OUTSIDE", "about(" + s + ", 3) = 0",
                    "about(" + s + ", 1) = 0",
                    "shown(1, 0) = NONE; exists(0) = 0; exists(1) = 0; item(0, 2, 0) = 0; item(1, 1, 0) = 0",
                    "told(7) = 0");
            }
        }
    }

    private static void streamsAreThese() {
        for (String s : new String[] {"0", "-1", "2", "4", "MIN", "MAX"}) {
            Run.of("14, 15, 16: UNKNOWN: there is no such STREAM", "pane() = 1; pane() = 2; pane() = 3; close(2)",
                "put(" + s + ", 65) = UNKNOWN",
                "get(" + s + ") = UNKNOWN", "seek(" + s + ", 0, 0) = UNKNOWN", "put(1, 65) = 1; put(3, 65) = 1");
        }
    }

    private static void narrowAbove255() {
        String sentence = "T: one that is not WIDE puts a SIGN above 255 as 63";
        Run.of(sentence, "row(0, 1, 4); memory(0, 4, 3, false) = 1; put(1, 254) = 1; put(1, 255) = 1; put(1, 256) = 1",
            "put(1, 1114111) = 1",
            "item(0, 1, 0) = -2; item(0, 1, 1) = -1; item(0, 1, 2) = 63; item(0, 1, 3) = 63");
        Run.of(sentence, NAMED, "open(0, 3, false) = 1; put(1, 254) = 1; put(1, 255) = 1; put(1, 256) = 1",
            "put(1, 1114111) = 1; exists(0) = 4",
            "seek(1, 0, 0) = 0; get(1) = 254; get(1) = 255; get(1) = 63; get(1) = 63");
        Run.of("T: one that is WIDE puts it whole", "row(0, 2, 3); memory(0, 3, 3, true) = 1; put(1, 255) = 1",
            "put(1, 256) = 1; put(1, 1114111) = 1",
            "item(0, 2, 0) = 255; item(0, 2, 1) = 256; item(0, 2, 2) = 1114111");
        Run.of("T: one that is WIDE puts it whole", NAMED, "open(0, 3, true) = 1; put(1, 255) = 1; put(1, 256) = 1",
            "put(1, 1114111) = 1",
            "seek(1, 0, 0) = 0; get(1) = 255; get(1) = 256; get(1) = 1114111");
        Run.of("T: A PANE: SIGNS that are put are shown", "pane() = 1; put(1, 255) = 1; put(1, 256) = 1",
            "put(1, 1114111) = 1",
            "shown(1, 2) = 255; shown(1, 1) = 256; shown(1, 0) = 1114111");
    }

    private static void memoryAtItsEnd() {
        for (String wide : new String[] {"false", "true"}) {
            int sort = wide.equals("true") ? 2 : 1;
            String item = "item(0, " + sort + ", ";
            Run.of("T: a SIGN is put into the item at its PLACE, which is 1 more then",
                "row(0, " + sort + ", 3); memory(0, 3, 1, " + wide + ") = 1",
                "about(1, 1) = 0; put(1, 65) = 1; about(1, 1) = 1; put(1, 66) = 1; about(1, 1) = 2; put(1, 67) = 1",
                "about(1, 1) = 3",
                item + "0) = 65", item + "1) = 66", item + "2) = 67");
            Run.of("T: at its END it is dropped, but counted", "row(0, " + sort + ", 3)",
                "memory(0, 2, 1, " + wide + ") = 1",
                "put(1, 65) = 1; put(1, 66) = 1; share() = throws.ArithmeticException; put(1, 67) = 1",
                "about(1, 1) = 2; about(1, 3) = 3",
                item + "1) = 66", item + "2) = 0", "share() = 3; put(1, 68) = 1; about(1, 3) = 4; share() = 2",
                "close(1) = 4");
            Run.of("T: its END is the array's", "row(0, " + sort + ", 2); memory(0, 2, 1, " + wide + ") = 1",
                "put(1, 65) = 1 # 3; told(7) = 0",
                "about(1, 3) = 3; share() = 3");
        }
        Run.of("T: of no items: it is dropped at once", "row(0, 1, 3); memory(0, 0, 1, false) = 1; put(1, 65) = 1",
            "item(0, 1, 0) = 0; about(1, 3) = 1");
        Run.of("T: of 40 items", "row(0, 1, 40); memory(0, 40, 1, false) = 1; put(1, 65) = 1 # 40",
            "share() = throws.ArithmeticException",
            "item(0, 1, 39) = 65; put(1, 66) = 1; item(0, 1, 39) = 65; share() = 41");
    }

    private static void memoryBeyondTheArray() {
        Run.of("T: an END beyond the array: INDEX", "row(0, 1, 2); memory(0, 4, 3, false) = 1; put(1, 65) = 1",
            "put(1, 66) = 1; told(7) = 0",
            "put(1, 67) = INDEX; told(7) = 3; about(1, 1) = 2; about(1, 3) = 2; get(1) = INDEX; about(1, 4) = 0",
            "about(1, 1) = 2",
            "seek(1, 3, 0) = 3; put(1, 67) = INDEX; get(1) = INDEX; share() = throws.ArithmeticException",
            "seek(1, 4, 0) = 4; put(1, 67) = 1; get(1) = NONE; about(1, 3) = 3; share() = 3");
        Run.of("T: an END beyond the array, of no items: INDEX", "row(0, 2, 0); memory(0, 1, 3, true) = 1",
            "put(1, 65) = INDEX; get(1) = INDEX");
        Run.of("T: an END beyond the array: GOT before it", "row(0, 2, 1); memory(0, 2, 3, true) = 1; get(1) = 0",
            "get(1) = INDEX; about(1, 4) = 1");
    }

    private static void memoryCast() {
        for (int sort = 0; sort <= 4; sort++) {
            for (String wide : new String[] {"false", "true"}) {
                int wanted = wide.equals("true") ? 2 : 1;
                String due = sort == 0 ? "NULL" : sort == wanted ? "" : "CAST";
                int fault = sort == 0 ? 1 : sort == wanted ? 0 : 2;
                String set = "row(0, " + sort + ", 1); memory(0, 1, 3, " + wide + ") = 1";
                Run.of("T: an array of ints if it is WIDE, of bytes else: CAST", set,
                    "put(1, 65) = " + (due.isEmpty() ? "1" : due),
                    "told(7) = " + fault, "about(1, 1) = " + (fault == 0 ? 1 : 0),
                    "about(1, 3) = " + (fault == 0 ? 1 : 0));
                Run.of("15: FAULTS 2, 1", set, "get(1) = " + (due.isEmpty() ? "0" : due),
                    "told(7) = " + fault, "about(1, 1) = " + (fault == 0 ? 1 : 0),
                    "about(1, 4) = " + (fault == 0 ? 1 : 0));
            }
        }
    }

    private static void memoryFaultsInOrder() {
        for (int sort = 0; sort <= 4; sort++) {
            String due = sort == 0 ? "NULL" : sort == 1 ? "INDEX" : "CAST";
            Run.of("14, 15: FAULTS 2, 1, 3, the first of them", "row(0, " + sort + ", 1); memory(0, 3, 3, false) = 1",
                "seek(1, 2, 0) = 2",
                "put(1, 65) = " + due, "get(1) = " + due, "about(1, 1) = 2; about(1, 3) = 0; about(1, 4) = 0");
        }
    }

    /** The document does not say whether the array is looked at there; it says that the SIGN is dropped. */
    private static void memoryDropsAtItsEnd() {
        for (int sort = 0; sort <= 4; sort++) {
            for (int n = 0; n <= 2; n += 2) {
                Run.of("T: at its END it is dropped, whatever the array is; NONE at its END", "row(0, " + sort + ", 1)",
                    "memory(0, " + n + ", 3, false) = 1; seek(1, 0, 2) = " + n,
                    "put(1, 65) = 1; get(1) = NONE; told(7) = 0; about(1, 3) = 1");
            }
        }
    }

    private static void fileOf60Bytes() {
        for (int mode : new int[] {1, 3, 5}) {
            Run.of("T: A FILE has up to 60 bytes; FULL, if it would have more bytes", NAMED,
                "open(0, " + mode + ", false) = 1; put(1, 65) = 1 # 59",
                "exists(0) = 59; put(1, 66) = 1; exists(0) = 60; about(1, 1) = 60; about(1, 2) = 60",
                "put(1, 67) = FULL # 2; exists(0) = 60",
                "about(1, 1) = 60; about(1, 3) = 60; told(7) = 0; seek(1, 59, 0) = 59; put(1, 68) = 1",
                "put(1, 69) = FULL; close(1) = 61",
                "open(0, 2, false) = 2; seek(2, 58, 0) = 58; get(2) = 65; get(2) = 68; get(2) = NONE",
                "share() = throws.ArithmeticException");
        }
    }

    private static void fileOf15WideSigns() {
        for (int mode : new int[] {1, 3, 5}) {
            Run.of("T: of WIDE ones four; FULL, if it would have more bytes", NAMED,
                "open(0, " + mode + ", true) = 1; put(1, 650) = 1 # 14",
                "exists(0) = 56; put(1, 660) = 1; exists(0) = 60; about(1, 1) = 15; about(1, 2) = 15",
                "put(1, 670) = FULL; exists(0) = 60",
                "about(1, 1) = 15; about(1, 3) = 15; seek(1, 14, 0) = 14; put(1, 680) = 1; put(1, 690) = FULL",
                "close(1) = 16",
                "open(0, 2, true) = 2; seek(2, 13, 0) = 13; get(2) = 650; get(2) = 680; get(2) = NONE");
        }
        for (int n = 55; n <= 60; n++) {
            int whole = n / 4;
            String filled = NAMED + "; open(0, 1, false) = 1; put(1, 65) = 1 # " + n + "; close(1)"
                + "; open(0, 3, true) = 2";
            Run.of("T: FULL, if it would have more bytes, of a WIDE one", filled, "seek(2, 0, 2) = " + whole,
                "put(2, 700) = " + (whole < 15 ? "1" : "FULL"), "exists(0) = " + (whole < 14 ? n / 4 * 4 + 4 : 60));
            Run.of("T: FULL, if it would have more bytes, of an appended WIDE one",
                filled.replace("open(0, 3", "open(0, 5"),
                "about(2, 1) = " + whole, "put(2, 700) = " + (whole < 15 ? "1" : "FULL"),
                "exists(0) = " + Math.min(60, 4 * whole + 4));
        }
    }

    private static void fileInPlaceOfWhatIsThere() {
        Run.of("T: put at its PLACE, in place of what is there, or behind its END", SIX,
            "open(0, 3, false) = 2; put(2, 9) = 1; exists(0) = 6",
            "about(2, 2) = 6; get(2) = 2; seek(2, 5, 0) = 5; put(2, 8) = 1; exists(0) = 6; about(2, 1) = 6",
            "put(2, 7) = 1; exists(0) = 7",
            "about(2, 2) = 7; about(2, 1) = 7; seek(2, 0, 0) = 0; get(2) = 9; get(2) = 2; get(2) = 3; get(2) = 4",
            "get(2) = 5; get(2) = 8",
            "get(2) = 7; get(2) = NONE");
        Run.of("T: put behind its END, appended", SIX, "open(0, 5, false) = 2; put(2, 7) = 1; exists(0) = 7",
            "seek(2, 1, 0) = 1; put(2, 9) = 1",
            "exists(0) = 7; close(2) = 2; open(0, 2, false) = 3; get(3) = 1; get(3) = 9; get(3) = 3",
            "seek(3, 6, 0) = 6; get(3) = 7");
        Run.of("T: WRITE, too, is put at its PLACE", NAMED, "open(0, 1, false) = 1; put(1, 1); put(1, 2)",
            "seek(1, 0, 0) = 0; put(1, 9) = 1",
            "exists(0) = 2; close(1) = 3; open(0, 2, false) = 2; get(2) = 9; get(2) = 2; get(2) = NONE");
    }

    private static void fileHighestFirst() {
        Run.of("T: of WIDE ones four (the highest first)", NAMED, "open(0, 1, true) = 1; put(1, 1114110) = 1",
            "put(1, 1) = 1; close(1)",
            "open(0, 2, false) = 2; get(2) = 0; get(2) = 16; get(2) = 255; get(2) = 254; get(2) = 0; get(2) = 0",
            "get(2) = 0; get(2) = 1",
            "get(2) = NONE");
        Run.of("T: of WIDE ones four, in place of what is there", SIX, "open(0, 3, true) = 2; put(2, 66051) = 1",
            "exists(0) = 6; about(2, 2) = 1",
            "close(2); open(0, 2, false) = 3; get(3) = 0; get(3) = 1; get(3) = 2; get(3) = 3; get(3) = 5; get(3) = 6",
            "get(3) = NONE");
    }

    private static void fileBytesOfNoWholeSign() {
        Run.of("T: its END is how many SIGNS there are whole", SIX, "open(0, 3, true) = 2; about(2, 2) = 1",
            "get(2) = 131844; get(2) = NONE",
            "put(2, 256) = 1; about(2, 2) = 2; exists(0) = 8; close(2); open(0, 2, false) = 3; seek(3, 4, 0) = 4",
            "get(3) = 0; get(3) = 0",
            "get(3) = 1; get(3) = 0; get(3) = NONE");
        Run.of("T: bytes of no whole SIGN go then", SIX, "open(0, 5, true) = 2; exists(0) = 4; close(2)",
            "open(0, 2, false) = 3; about(3, 2) = 4",
            "seek(3, 3, 0) = 3; get(3) = 4; get(3) = NONE");
    }

    private static void readIsNotPut() {
        String sentence = "14: STATE: it is READ";
        Run.of(sentence, "row(0, 1, 1); memory(0, 1, 2, false) = 1; memory(0, 1, 1, false) = 2",
            "memory(0, 1, 3, false) = 3",
            "put(1, 65) = STATE; item(0, 1, 0) = 0; about(1, 3) = 0; put(2, 65) = 1; put(3, 65) = 1");
        Run.of(sentence, SIX, "open(0, 2, false) = 2; put(2, 65) = STATE; exists(0) = 6; get(2) = 1; close(2) = 0");
        for (int mode : new int[] {1, 3, 5}) {
            Run.of(sentence, SIX, "open(0, " + mode + ", false) = 2; put(2, 65) = 1; close(2) = 1");
        }
        Run.of(sentence, "row(0, 1, 1); give(0, 0) = 1; resource(0, false) = 1; put(1, 65) = STATE; about(1, 3) = 0",
            "get(1) = 0");
        Run.of("14: STATE before FAULTS", "memory(0, 1, 2, false) = 1; put(1, 65) = STATE; told(7) = 0");
        Run.of("14: STATE before what is dropped", "memory(0, 0, 2, false) = 1; put(1, 65) = STATE",
            "share() = throws.ArithmeticException");
    }

    private static void onlyReadAndBothAreGot() {
        for (int mode = 1; mode <= 3; mode++) {
            Run.of("15: STATE: it is not READ, BOTH", "row(0, 1, 1); memory(0, 1, " + mode + ", false) = 1",
                "get(1) = " + (mode == 1 ? "STATE" : "0"), "about(1, 4) = " + (mode == 1 ? 0 : 1),
                "about(1, 1) = " + (mode == 1 ? 0 : 1));
            Run.of("15: STATE before FAULTS", "memory(0, 1, " + mode + ", false) = 1",
                "get(1) = " + (mode == 1 ? "STATE" : "NULL"),
                "told(7) = " + (mode == 1 ? 0 : 1));
            Run.of("15: STATE at its END, too", "memory(0, 0, " + mode + ", false) = 1",
                "get(1) = " + (mode == 1 ? "STATE" : "NONE"));
        }
        for (int mode : new int[] {1, 2, 3, 5}) {
            String due = mode == 1 || mode == 5 ? "STATE" : "1";
            Run.of("15: STATE: it is not READ, BOTH", SIX, "open(0, " + mode + ", false) = 2; seek(2, 0, 0) = 0",
                "get(2) = " + due);
        }
        Run.of("15: STATE: a PANE", "pane() = 1; put(1, 65); get(1) = STATE; about(1, 4) = 0");
    }

    private static void gotOfBytes() {
        String[][] bytes = {{"127", "127"}, {"128", "128"}, {"-1", "255"}, {"-128", "128"}, {"0", "0"}};
        for (String[] pair : bytes) {
            Run.of("T: GOT: of bytes 0 to 255", "row(0, 1, 1); set(0, 1, 0, " + pair[0] + ")",
                "memory(0, 1, 2, false) = 1", "get(1) = " + pair[1]);
        }
        for (int c : new int[] {0, 127, 128, 255}) {
            Run.of("T: GOT: of a FILE's bytes 0 to 255", NAMED, "open(0, 3, false) = 1; put(1, " + c + ")",
                "seek(1, 0, 0) = 0; get(1) = " + c);
        }
    }

    private static void gotOfInts() {
        for (String[] pair : GOT) {
            Run.of("T: GOT: of an int its lowest 21 bits, 63 if that is no SIGN",
                "row(0, 2, 1); set(0, 2, 0, " + pair[0] + ")",
                "memory(0, 1, 2, true) = 1; get(1) = " + pair[1], "item(0, 2, 0) = " + pair[0]);
        }
    }

    private static void gotOfWideFiles() {
        for (String[] pair : GOT) {
            int number = Run.number(pair[0]);
            Run run = Run.of("T: GOT: of a WIDE FILE likewise", NAMED, "open(0, 1, false) = 1");
            for (int shift = 24; shift >= 0; shift -= 8) {
                run.then("put(1, " + (number >>> shift & 255) + ") = 1");
            }
            run.then("close(1); open(0, 2, true) = 2; get(2) = " + pair[1], "about(2, 1) = 1; about(2, 4) = 1",
                "get(2) = NONE");
        }
    }

    private static void noneAtItsEnd() {
        String sentence = "T: GOT is the SIGN at its PLACE, which is 1 more then; NONE at its END";
        String left = "; about(%s, 1) = 1; about(%s, 4) = 1; get(%s) = NONE # 2; about(%s, 1) = 1; about(%s, 4) = 1"
            + "; told(7) = 0";
        Run.of(sentence, "row(0, 1, 2); set(0, 1, 0, 7); memory(0, 1, 2, false) = 1",
            "get(1) = 7" + left.replace("%s", "1"));
        Run.of(sentence, "row(0, 1, 1); give(0, 0) = 1; resource(0, false) = 1; get(1) = 0" + left.replace("%s", "1"));
        Run.of(sentence, NAMED, "open(0, 1, false) = 1; put(1, 9); close(1); open(0, 2, false) = 2",
            "get(2) = 9" + left.replace("%s", "2"));
        Run.of(sentence, SIX, "open(0, 3, true) = 2; get(2) = 131844" + left.replace("%s", "2"));
        Run.of("T: BOTH: behind what was put", SIX, "open(0, 3, false) = 2; get(2) = 1; put(2, 9) = 1; get(2) = 3",
            "about(2, 1) = 3; about(2, 3) = 1",
            "about(2, 4) = 2");
    }

    private static void seekFrom() {
        String open = SIX + "; open(0, 2, false) = 2; seek(2, 2, 0) = 2";
        String[][] sought = {{"0, 0", "0"}, {"4, 0", "4"}, {"0, 1", "2"}, {"3, 1", "5"}, {"-1, 1", "1"},
            {"0, 2", "6"}, {"-2, 2", "4"}};
        for (String[] pair : sought) {
            Run.of("16: at from 0, from where it is, from its END: its PLACE", open,
                "seek(2, " + pair[0] + ") = " + pair[1],
                "about(2, 1) = " + pair[1]);
        }
    }

    private static void seekNotBelowNorBeyond() {
        String[][] sought = {{"0, 0", "0"}, {"-1, 0", "0"}, {"MIN, 0", "0"}, {"6, 0", "6"}, {"7, 0", "6"},
            {"MAX, 0", "6"},
            {"-2, 1", "0"}, {"-3, 1", "0"}, {"MIN, 1", "0"}, {"4, 1", "6"}, {"5, 1", "6"}, {"MAX, 1", "6"},
            {"-6, 2", "0"}, {"-7, 2", "0"}, {"MIN, 2", "0"}, {"-1, 2", "5"}, {"1, 2", "6"}, {"MAX, 2", "6"}};
        String[] opened = {SIX + "; open(0, 2, false) = 2", SIX + "; open(0, 3, false) = 2",
            SIX + "; open(0, 5, false) = 2",
            "row(0, 1, 9); pane(); memory(0, 6, 1, false) = 2", "row(0, 1, 3); pane(); memory(0, 6, 3, false) = 2",
            "pane(); memory(0, 6, 2, true) = 2", "row(0, 1, 6); pane(); give(0, 0) = 6; resource(0, true) = 2"};
        for (String open : opened) {
            for (String[] pair : sought) {
                Run.of("16: but not below 0, nor beyond its END", open, "seek(2, 2, 0) = 2",
                    "seek(2, " + pair[0] + ") = " + pair[1],
                    "about(2, 1) = " + pair[1], "about(2, 2) = 6; about(2, 3) = 0; about(2, 4) = 0; told(7) = 0");
            }
        }
        Run.of("16: nor beyond an END of 0", "memory(0, 0, 1, true) = 1; seek(1, 1, 0) = 0; seek(1, 0, 2) = 0",
            "seek(1, -1, 1) = 0");
        Run.of("16: its END is of whole SIGNS", SIX, "open(0, 2, true) = 2; seek(2, 2, 0) = 1; seek(2, 0, 2) = 1",
            "seek(2, 1, 1) = 1");
        Run.of("16: its END is 1 more when it was put behind it", SIX, "open(0, 3, false) = 2; seek(2, 0, 2) = 6",
            "put(2, 7) = 1; seek(2, 9, 0) = 7");
    }

    private static void seekRefuses() {
        for (String from : new String[] {"-1", "3", "MIN", "MAX"}) {
            Run.of("16: OUTSIDE: from", SIX, "open(0, 2, false) = 2; seek(2, 3, 0) = 3",
                "seek(2, 1, " + from + ") = OUTSIDE; about(2, 1) = 3");
        }
        for (int from = 0; from <= 2; from++) {
            Run.of("16: STATE: a PANE", "pane() = 1; put(1, 65); seek(1, 0, " + from + ") = STATE; about(1, 1) = 0");
        }
    }

    private static void seekMovesWhatIsPut() {
        Run.of("16: its PLACE becomes at, for what is put", "row(0, 1, 3); memory(0, 3, 1, false) = 1",
            "seek(1, 2, 0) = 2; put(1, 7) = 1",
            "item(0, 1, 2) = 7; item(0, 1, 0) = 0; seek(1, 9, 0) = 3; put(1, 8) = 1; share() = 2; seek(1, -9, 1) = 0",
            "put(1, 9) = 1; item(0, 1, 0) = 9");
        Run.of("16: its PLACE becomes at, for what is got", "row(0, 1, 3); set(0, 1, 2, 7); give(0, 0)",
            "resource(0, false) = 1; seek(1, 2, 0) = 2",
            "get(1) = 7; get(1) = NONE; seek(1, -1, 2) = 2; get(1) = 7");
    }
}
