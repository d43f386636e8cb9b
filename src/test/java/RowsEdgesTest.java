/** Rows: the sentences of the terms and of promises 1 to 8 that name an edge, on both sides of it. */
public final class RowsEdgesTest {
    /** References 0 (of a name) and 1 (temporary). */
    private static final String REFERENCES = "name(97) = 1; file(0) = 0; temporary(0) = 1";
    /** Rows 1 to 4 hold arrays of sorts 1 to 4, of 3 items each. */
    private static final String SORTS = "row(1, 1, 3) = 1; row(2, 2, 3) = 1; row(3, 3, 3) = 1; row(4, 4, 3) = 1";

    public static void main(String[] args) {
        rowsAre0To7();
        sortsAre1To4();
        ofNoItemsTo40();
        severalHoldTheSame();
        newObject();
        nothingWithoutALookAtN();
        sizes();
        lent();
        cutToItsWidth();
        numbersAreCast();
        numbersAtTheEnds();
        itemRefuses();
        held();
        stored();
        heldNothing();
        copiedAsIfByWayOfOthers();
        copiedAtTheEnds();
        copiedNothing();
        copiedUnlikeKinds();
        copiedIntoTemporary();
        Due.end();
    }

    private static void rowsAre0To7() {
        String[] calls = {"row(%s, 1, 1) = 1", "lend(%s, 0) = 1", "lend(0, %s) = 1", "set(%s, 1, 0, 0) = NULL",
            "item(%s, 2, 0) = NULL", "hold(%s, 0, NONE) = NULL", "held(%s, 0) = NULL", "copy(%s, 0, 0, 0, 0) = NULL",
            "copy(0, 0, %s, 0, 0) = NULL", "memory(%s, 1, 1, false) = 1", "give(0, %s) = NULL"};
        for (String call : calls) {
            for (int r = 0; r <= 7; r++) {
                Run.of("T: ROWS 0 to 7 hold NOTHING (at first)", call.replace("%s", "" + r));
            }
            for (String r : new String[] {"-1", "8", "MIN", "MAX"}) {
                String refused = call.substring(0, call.indexOf(" =")).replace("%s", r) + " = UNKNOWN";
                Run.of("T: UNKNOWN: there is no such ROW", refused, "told(7) = 0", "told(0) = 0");
            }
        }
    }

    private static void sortsAre1To4() {
        String[] call = {"", "set(0, 1, 0, 7)", "set(0, 2, 0, 7)", "hold(0, 0, 0)", "hold(0, 0, 1)"};
        // What each of these answers on a row of each sort.
        String[][] due = {{}, {"", "1", "CAST", "CAST", "CAST"}, {"", "CAST", "1", "CAST", "CAST"},
            {"", "CAST", "CAST", "1", "1"}, {"", "CAST", "CAST", "STORE", "1"}};
        for (int sort = 1; sort <= 4; sort++) {
            for (int way = 1; way <= 4; way++) {
                Run.of("T: an array of a SORT: 1 bytes, 2 ints, 3 REFERENCES, 4 TEMPORARY ones alone", REFERENCES,
                    "row(0, " + sort + ", 1) = 1", call[way] + " = " + due[sort][way]);
            }
            String another = sort <= 2 ? "held(0, 0) = CAST" : "held(0, 0) = NULL";
            Run.of("T: TEMPORARY (it is one of 3, too)", "row(0, " + sort + ", 1) = 1", another);
        }
        for (String sort : new String[] {"-1", "5", "MIN", "MAX"}) {
            Run.of("2: an array of a SORT", "row(0, " + sort + ", 1) = OUTSIDE", "item(0, 1, 0) = NULL");
        }
    }

    private static void ofNoItemsTo40() {
        for (int n : new int[] {0, 1, 39, 40}) {
            for (int sort = 1; sort <= 2; sort++) {
                Run run = Run.of("T: bytes, ints (both 0 at first), of 0 to 40 items",
                    "row(0, " + sort + ", " + n + ") = 1");
                for (int k = 0; k < n; k++) {
                    run.then("item(0, " + sort + ", " + k + ") = 0");
                }
                run.then("item(0, " + sort + ", " + n + ") = INDEX", "item(0, " + sort + ", -1) = INDEX");
            }
            for (int sort = 3; sort <= 4; sort++) {
                Run run = Run.of("T: both of NOTHING at first, of 0 to 40 items",
                    "row(0, " + sort + ", " + n + ") = 1");
                for (int k = 0; k < n; k++) {
                    run.then("held(0, " + k + ") = NULL");
                }
                run.then("held(0, " + n + ") = INDEX", "held(0, -1) = INDEX");
            }
        }
    }

    private static void severalHoldTheSame() {
        Run run = Run.of("T: several may hold the same one", "row(0, 2, 40) = 1");
        for (int r = 1; r <= 7; r++) {
            run.then("lend(" + r + ", " + (r - 1) + ") = 1");
        }
        run.then("set(7, 2, 39, 5) = 1", "item(0, 2, 39) = 5", "item(3, 2, 39) = 5");
        run.then("row(3, 2, 40) = 1", "item(3, 2, 39) = 0", "item(4, 2, 39) = 5", "item(2, 2, 39) = 5");
    }

    private static void newObject() {
        Run.of("1: no STREAMS", "told(0) = 0; told(1) = 0; about(0, 0) = UNKNOWN; about(1, 0) = UNKNOWN; pane() = 1");
        Run.of("1: no FILES", "told(2) = 0; name(97); file(0) = 0; exists(0) = NONE; open(0, 2, false) = STATE");
        Run.of("1: no REFERENCES", "told(3) = 0; exists(0) = UNKNOWN; drop(0) = UNKNOWN; open(0, 1, true) = UNKNOWN",
            "row(0, 3, 1); hold(0, 0, 0) = UNKNOWN; temporary(3) = 0; hold(0, 0, 0) = 1");
        for (int number = 0; number <= 3; number++) {
            Run.of("1: no RESOURCES", "row(0, 1, 1)", "resource(" + number + ", true) = UNKNOWN",
                "give(" + number + ", 0) = 1", "resource(" + number + ", true) = 1");
        }
        Run.of("1: TIME 0", "told(5) = 0; tick(1) = 0; told(5) = 1");
        Run.of("1: a new object", "told(4) = 0; told(6) = 0; told(7) = 0; event() = 0; timer(0) = 0; sound(0, 0) = 0",
            "sound(1, 0) = 0; file(0) = STATE; share() = throws.ArithmeticException");
    }

    private static void nothingWithoutALookAtN() {
        for (String n : new String[] {"0", "40", "41", "-1", "MIN", "MAX"}) {
            Run.of("2: 0: NOTHING; n is not looked at", "row(0, 1, 1) = 1; item(0, 1, 0) = 0",
                "row(0, 0, " + n + ") = 1; told(7) = 0; item(0, 1, 0) = NULL");
        }
    }

    private static void sizes() {
        for (int sort = 1; sort <= 4; sort++) {
            String row = "row(1, " + sort + ", ";
            Run.of("2: OUTSIDE (n above 40)", row + "40) = 1", row + "41) = OUTSIDE", row + "MAX) = OUTSIDE",
                "told(7) = 0");
            Run.of("2: FAULT 4", row + "0) = 1", "told(7) = 0", row + "-1) = SIZE", "told(7) = 4", row + "MIN) = SIZE");
        }
        Run.of("2: they change nothing", "row(0, 1, 2); set(0, 1, 1, 9); row(0, 2, 41) = OUTSIDE; item(0, 1, 1) = 9",
            "row(0, 2, -1) = SIZE; item(0, 1, 1) = 9; row(0, 5, 1) = OUTSIDE; item(0, 1, 1) = 9");
        Run.of("2: a new array", "row(0, 1, 2); set(0, 1, 1, 9); row(0, 1, 2) = 1; item(0, 1, 1) = 0");
    }

    private static void lent() {
        Run.of("3: a ROW holds what another one does", "row(7, 1, 1); set(7, 1, 0, 3)",
            "lend(0, 7) = 1; item(0, 1, 0) = 3");
        Run.of("3: NOTHING, too", "row(0, 1, 1); lend(0, 7) = 1; item(0, 1, 0) = NULL");
        Run.of("3: itself", "row(7, 1, 1); set(7, 1, 0, 3); lend(7, 7) = 1; item(7, 1, 0) = 3");
        Run.of("3: UNKNOWN changes nothing", "row(0, 1, 1); lend(0, 8) = UNKNOWN; lend(0, -1) = UNKNOWN",
            "item(0, 1, 0) = 0");
    }

    private static void cutToItsWidth() {
        String[][] bytes = {{"127", "127"}, {"128", "-128"}, {"-128", "-128"}, {"-129", "127"}, {"255", "-1"},
            {"256", "0"}, {"-256", "0"}, {"-1", "-1"}, {"MAX", "-1"}, {"MIN", "0"}};
        for (String[] pair : bytes) {
            Run.of("4: cut to its width; 5: bytes have a sign", SORTS,
                "set(1, 1, 1, " + pair[0] + ") = 1", "item(1, 1, 1) = " + pair[1], "item(1, 1, 0) = 0",
                "item(1, 1, 2) = 0");
        }
        for (String v : new String[] {"MAX", "MIN", "-1", "65536", "128"}) {
            Run.of("4: cut to its width, of ints", SORTS,
                "set(2, 2, 1, " + v + ") = 1", "item(2, 2, 1) = " + v, "item(2, 2, 0) = 0", "item(2, 2, 2) = 0");
        }
    }

    private static void numbersAreCast() {
        for (String sort : new String[] {"-1", "0", "3", "4", "5", "MIN", "MAX"}) {
            for (int r = 0; r <= 4; r++) {
                Run.of("4, 5: CAST to SORT 1, 2", SORTS, "set(" + r + ", " + sort + ", 0, 1) = OUTSIDE",
                    "item(" + r + ", " + sort + ", 0) = OUTSIDE", "told(7) = 0");
            }
        }
        for (int sort = 1; sort <= 2; sort++) {
            for (int r = 1; r <= 4; r++) {
                String due = r == sort ? "1" : "CAST";
                Run.of("4: FAULT 2", SORTS, "set(" + r + ", " + sort + ", 2, 1) = " + due,
                    "told(7) = " + (r == sort ? 0 : 2));
                due = r == sort ? "0" : "CAST";
                Run.of("5: FAULT 2", SORTS, "item(" + r + ", " + sort + ", 2) = " + due,
                    "told(7) = " + (r == sort ? 0 : 2));
            }
        }
    }

    private static void numbersAtTheEnds() {
        for (String k : new String[] {"-1", "3", "MIN", "MAX"}) {
            String of = ", " + k;
            Run.of("4: FAULTS 2, 1, 3, the first of them", SORTS, "set(2, 1" + of + ", 5) = CAST; told(7) = 2",
                "set(0, 1" + of + ", 5) = NULL; told(7) = 1; set(1, 1" + of + ", 5) = INDEX; told(7) = 3",
                "set(3, 2" + of + ", 5) = CAST; set(4, 2" + of + ", 5) = CAST; set(2, 2" + of + ", 5) = INDEX");
            Run.of("5: FAULTS 2, 1, 3, the first of them", SORTS, "item(2, 1" + of + ") = CAST; told(7) = 2",
                "item(0, 1" + of + ") = NULL; told(7) = 1; item(1, 1" + of + ") = INDEX; told(7) = 3",
                "item(3, 2" + of + ") = CAST; item(4, 2" + of + ") = CAST; item(2, 2" + of + ") = INDEX");
        }
        Run.of("4: item k, the first and the last", SORTS, "set(2, 2, 0, 7) = 1; set(2, 2, 2, 9) = 1",
            "item(2, 2, 0) = 7",
            "item(2, 2, 1) = 0; item(2, 2, 2) = 9; told(7) = 0");
        Run.of("4: a FAULT changes nothing", SORTS, "set(2, 2, 3, 7) = INDEX; set(2, 2, -1, 7) = INDEX",
            "item(2, 2, 0) = 0; item(2, 2, 2) = 0; set(2, 1, 0, 7) = CAST; item(2, 2, 0) = 0");
    }

    private static void itemRefuses() {
        Run.of("5: REFUSED less what another call would answer (so UNKNOWN: REFUSED + 2)", SORTS,
            "item(8, 1, 0) = -9223372036854775806; item(1, 0, 0) = -9223372036854775805",
            "item(0, 1, 0) = -9223372036854775797; item(1, 2, 0) = -9223372036854775796",
            "item(1, 1, 3) = -9223372036854775795");
        Run.of("5: what is no refusal", SORTS, "set(2, 2, 0, -2); item(2, 2, 0) = -2; set(2, 2, 0, MIN)",
            "item(2, 2, 0) = MIN");
    }

    private static void held() {
        for (int r = 3; r <= 4; r++) {
            String row = "(" + r + ", ";
            Run.of("6, 7: item k, the first and the last", REFERENCES, SORTS, "hold" + row + "0, 1) = 1",
                "hold" + row + "2, 1) = 1", "held" + row + "0) = 1", "held" + row + "1) = NULL",
                "held" + row + "2) = 1");
            Run.of("6: NONE: NOTHING", REFERENCES, SORTS, "hold" + row + "2, 1) = 1", "hold" + row + "2, NONE) = 1",
                "told(7) = 0", "held" + row + "2) = NULL");
        }
        Run.of("6: UNKNOWN: there is no such REFERENCE", REFERENCES, SORTS, "hold(3, 0, 0) = 1",
            "hold(3, 0, 2) = UNKNOWN",
            "hold(3, 0, -2) = UNKNOWN; hold(3, 0, 20) = UNKNOWN; hold(3, 0, MIN) = UNKNOWN; hold(3, 0, MAX) = UNKNOWN",
            "held(3, 0) = 0; told(7) = 0; temporary(0) = 2; hold(3, 0, 2) = 1; held(3, 0) = 2");
        for (String k : new String[] {"-1", "3", "MIN", "MAX"}) {
            Run.of("6: FAULTS 2, 1, 3, 5, the first of them", REFERENCES, SORTS,
                "hold(1, " + k + ", 0) = CAST; told(7) = 2",
                "hold(2, " + k + ", 0) = CAST; hold(0, " + k + ", 0) = NULL; told(7) = 1",
                "hold(3, " + k + ", 0) = INDEX",
                "told(7) = 3; hold(4, " + k + ", 0) = INDEX; hold(4, " + k + ", NONE) = INDEX; hold(4, 2, 0) = STORE",
                "told(7) = 5");
            Run.of("7: FAULTS 2, 1, 3, 1, the first of them", SORTS, "held(1, " + k + ") = CAST; told(7) = 2",
                "held(2, " + k + ") = CAST; held(0, " + k + ") = NULL; told(7) = 1; held(3, " + k + ") = INDEX",
                "told(7) = 3",
                "held(4, " + k + ") = INDEX; held(3, 2) = NULL; told(7) = 1");
        }
    }

    private static void stored() {
        Run.of("6: FAULT 5: one that is not TEMPORARY where just such are", REFERENCES, SORTS, "hold(4, 1, 1) = 1",
            "hold(4, 1, 0) = STORE; told(7) = 5; held(4, 1) = 1; hold(3, 1, 0) = 1; hold(3, 1, 1) = 1; held(3, 1) = 1");
        Run.of("6: it is so by the array, not by the ROW", REFERENCES, SORTS, "lend(0, 4); hold(0, 1, 0) = STORE",
            "lend(0, 3); hold(0, 1, 0) = 1; held(3, 1) = 0");
    }

    private static void heldNothing() {
        Run.of("7: FAULT 1 (NOTHING there)", REFERENCES, SORTS, "held(3, 1) = NULL; told(7) = 1; hold(3, 1, 0) = 1",
            "held(3, 1) = 0",
            "held(3, 0) = NULL; held(3, 2) = NULL");
        Run.of("7: of a REFERENCE whose FILE is not there", REFERENCES, SORTS,
            "hold(3, 0, 0) = 1; exists(0) = NONE; held(3, 0) = 0");
    }

    private static Run numbers(String sentence) {
        return Run.of(sentence, "row(1, 2, 4); set(1, 2, 0, 10); set(1, 2, 1, 11); set(1, 2, 2, 12); set(1, 2, 3, 13)",
            "row(2, 2, 3); lend(3, 1)");
    }

    private static String items(int r, int... due) {
        StringBuilder rows = new StringBuilder("told(5) = 0");
        for (int k = 0; k < due.length; k++) {
            rows.append("; item(").append(r).append(", 2, ").append(k).append(") = ").append(due[k]);
        }
        return rows.toString();
    }

    private static void copiedAsIfByWayOfOthers() {
        String sentence = "8: as if by way of others";
        numbers(sentence).then("copy(1, 0, 1, 1, 3) = 1", items(1, 10, 10, 11, 12));
        numbers(sentence).then("copy(1, 1, 1, 0, 3) = 1", items(1, 11, 12, 13, 13));
        numbers(sentence).then("copy(1, 0, 3, 1, 3) = 1", items(1, 10, 10, 11, 12));
        numbers(sentence).then("copy(3, 1, 1, 0, 3) = 1", items(1, 11, 12, 13, 13));
        numbers(sentence).then("copy(1, 0, 1, 0, 4) = 1", items(1, 10, 11, 12, 13));
        Run.of("8: REFERENCES as if by way of others", REFERENCES, SORTS, "hold(3, 0, 0); hold(3, 1, 1)",
            "copy(3, 0, 3, 1, 2) = 1",
            "held(3, 0) = 0; held(3, 1) = 0; held(3, 2) = 1");
    }

    private static void copiedAtTheEnds() {
        numbers("8: n items from at on go to those from to on").then("copy(1, 1, 2, 0, 3) = 1", items(2, 11, 12, 13));
        numbers("8: n items from at on go to those from to on").then("copy(1, 0, 2, 2, 1) = 1", items(2, 0, 0, 10));
        String[] within = {"1, 4, 2, 0, 0", "1, 0, 2, 3, 0", "1, 4, 2, 3, 0", "1, 3, 2, 2, 1", "1, 1, 2, 0, 3",
            "1, 0, 2, 0, 3"};
        for (String places : within) {
            numbers("8: up to an end").then("copy(" + places + ") = 1", "told(7) = 0");
        }
        String[] beyond = {"1, 5, 2, 0, 0", "1, 0, 2, 4, 0", "1, 4, 2, 2, 1", "1, 3, 2, 3, 1", "1, 2, 2, 0, 3",
            "1, 0, 2, 1, 3",
            "1, 0, 2, 0, 4", "1, 0, 1, 0, 5", "1, -1, 2, 0, 1", "1, 0, 2, -1, 1", "1, 0, 2, 0, -1", "1, 4, 2, 3, -1",
            "1, -1, 2, 0, 0", "1, 0, 2, -1, 0", "1, MAX, 2, 0, 1", "1, 0, 2, MAX, 1", "1, 1, 2, 0, MAX",
            "1, 0, 2, 1, MAX",
            "1, MAX, 2, MAX, MAX", "1, MIN, 2, 0, 1", "1, 0, 2, MIN, 1", "1, 0, 2, 0, MIN", "1, MIN, 2, MIN, MIN",
            "1, MAX, 2, MAX, 0"};
        for (String places : beyond) {
            numbers("8: 3: at, to, n below 0, or beyond an end").then("copy(" + places + ") = INDEX", "told(7) = 3",
                items(1, 10, 11, 12, 13), items(2, 0, 0, 0));
        }
    }

    private static void copiedNothing() {
        for (String places : new String[] {"0, 0", "-1, 9", "MAX, MIN"}) {
            String at = places.split(", ")[0];
            String to = places.split(", ")[1];
            String row1To0 = "copy(1, " + at + ", 0, " + to + ", 0) = NULL";
            String row0To1 = "copy(0, " + at + ", 1, " + to + ", 0) = NULL";
            String row0To0 = "copy(0, " + at + ", 0, " + to + ", -1) = NULL";
            for (String call : new String[] {row1To0, row0To1, row0To0}) {
                Run.of("8: FAULT 1 of either, before the others", SORTS, call, "told(7) = 1");
            }
        }
        Run.of("8: neither holds NOTHING", SORTS, "copy(1, 0, 1, 0, 0) = 1; told(7) = 0");
    }

    private static void copiedUnlikeKinds() {
        for (int r = 1; r <= 4; r++) {
            for (int s = 1; s <= 4; s++) {
                boolean alike = r == s || (r >= 3 && s >= 3);
                String of = r + ", %s, " + s + ", %s, ";
                String[] due = alike ? new String[] {"1", "1", "INDEX"} : new String[] {"STORE", "STORE", "STORE"};
                String[] last = {"0", "3", "4"};
                for (int i = 0; i < 3; i++) {
                    Run.of("8: 5 of unlike kinds (3, 4 are alike), before 3", SORTS,
                        "copy(" + of.replace("%s", "0") + last[i] + ") = " + due[i],
                        "told(7) = " + (alike ? (i == 2 ? 3 : 0) : 5));
                }
                Run.of("8: 5 of unlike kinds, before 3", SORTS,
                    "copy(" + of.replace("%s", "-1") + "-1) = " + (alike ? "INDEX" : "STORE"));
            }
        }
    }

    private static void copiedIntoTemporary() {
        String set = SORTS + "; hold(3, 0, 1); hold(3, 1, 0); hold(3, 2, 1)";
        String full = "; hold(4, 0, 2); hold(4, 1, 2); hold(4, 2, 2)";
        Run.of("8: what is not TEMPORARY does not go into 4: those before have gone", REFERENCES, "temporary(0) = 2",
            set + full,
            "copy(3, 0, 4, 0, 3) = STORE; told(7) = 5; held(4, 0) = 1; held(4, 1) = 2; held(4, 2) = 2");
        Run.of("8: none before it", REFERENCES, "temporary(0) = 2", set + full,
            "copy(3, 1, 4, 0, 2) = STORE; held(4, 0) = 2; held(4, 1) = 2; held(4, 2) = 2");
        Run.of("8: it is beyond those that go", REFERENCES, "temporary(0) = 2", set + full,
            "copy(3, 0, 4, 2, 1) = 1; told(7) = 0; held(4, 0) = 2; held(4, 1) = 2; held(4, 2) = 1");
        Run.of("8: it is the last", REFERENCES, "temporary(0) = 2", set + full,
            "copy(3, 0, 4, 1, 2) = STORE; held(4, 0) = 2; held(4, 1) = 1; held(4, 2) = 2");
        Run.of("8: NOTHING goes into 4", REFERENCES, "temporary(0) = 2", set + full, "hold(3, 1, NONE)",
            "copy(3, 0, 4, 0, 3) = 1; held(4, 0) = 1; held(4, 1) = NULL; held(4, 2) = 1");
        Run.of("8: beyond an end none have gone", REFERENCES, "temporary(0) = 2", set + full,
            "copy(3, 0, 4, 1, 3) = INDEX; told(7) = 3; held(4, 1) = 2; held(4, 2) = 2");
        Run.of("8: out of 4 all go", REFERENCES, "temporary(0) = 2", set + full,
            "copy(4, 0, 3, 0, 3) = 1; held(3, 0) = 2; held(3, 1) = 2; held(3, 2) = 2");
        Run.of("8: what is not TEMPORARY goes into 3", REFERENCES, set, "row(0, 3, 3)",
            "copy(3, 0, 0, 0, 3) = 1; held(0, 0) = 1; held(0, 1) = 0; held(0, 2) = 1");
    }
}
