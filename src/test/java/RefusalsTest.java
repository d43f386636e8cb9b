import java.util.ArrayList;
import java.util.List;

/** Of several refusals the first one: UNKNOWN, OUTSIDE, STATE, FULL; then the FAULT. They change nothing. */
public final class RefusalsTest {
    /** Rows of every sort, references 0 (of a name), 1 (temporary), 2 (not there), and something of all the rest. */
    private static final String RICH =
        "row(0, 1, 2); set(0, 1, 0, 7); row(1, 2, 2); set(1, 2, 1, 700); row(2, 3, 2); row(3, 4, 2)"
        + "; lend(5, 0); name(97); file(0) = 0; temporary(1) = 1; name(98); file(2) = 2; hold(2, 0, 0) = 1"
        + "; hold(3, 1, 1) = 1; give(0, 1) = 2; open(0, 1, false) = 1; put(1, 65) = 1 # 60; close(1) = 60"
        + "; pane() = 2; pane() = 3; echo(2, 3) = 1; put(2, 66) = 1; memory(0, 3, 3, false) = 4"
        + "; put(4, 8) = 1; memory(0, 1, 1, true) = 5; open(0, 2, false) = 6; get(6) = 65"
        + "; open(1, 1, true) = 7; put(7, 300) = 1; resource(0, true) = 8; current(3) = 0; name(120) = 1"
        + "; name(47) = 1; timer(2) = 0; sound(0, 9) = 0; sound(1, 8) = 0; tick(5) = 2"
        + "; memory(6, 0, 1, true) = 9; put(9, 65) = 1; close(9) = 1";
    private static final String WITHOUT_ARRAY = RICH + "; memory(4, 2, 3, true) = 10";
    /** No room for another stream, file or reference; 3 has no file, and stream 13 is at the end of a full one. */
    private static final String FULL = RICH
        + "; temporary(0) # 17; open(4, 1, false) = 10; close(10); open(5, 1, false) = 11; close(11)"
        + "; open(6, 1, false) = 12; close(12); open(7, 1, false) = 13; put(13, 67) = 1 # 60; told(2) = 6"
        + "; told(3) = 20; told(0) = 8";
    private static final String FILES_FULL = FULL + "; close(5) = 0; told(0) = 7";

    public static void main(String[] args) {
        orderOfRows();
        orderOfOpening();
        orderOfStreams();
        orderOfFiles();
        refusedRows();
        refusedOpening();
        refusedStreams();
        refusedFiles();
        refusedRest();
        Due.end();
    }

    private static void first(String state, String... rows) {
        for (String row : rows) {
            Run.of("T: Of several refusals the first one", state, row);
        }
    }

    private static void orderOfRows() {
        first(RICH, "row(8, 5, 41) = UNKNOWN", "row(8, 1, 41) = UNKNOWN", "row(8, 1, -1) = UNKNOWN",
            "row(-1, 5, 1) = UNKNOWN", "row(0, 5, -1) = OUTSIDE",
            "row(0, -1, 41) = OUTSIDE");
        first(RICH, "set(8, 3, 0, 0) = UNKNOWN", "set(8, 1, -1, 0) = UNKNOWN", "set(4, 3, 0, 0) = OUTSIDE",
            "set(0, 3, 9, 0) = OUTSIDE");
        first(RICH, "item(8, 3, 0) = UNKNOWN", "item(8, 1, -1) = UNKNOWN", "item(4, 3, 0) = OUTSIDE",
            "item(0, 3, 9) = OUTSIDE");
        first(RICH, "hold(8, 0, 9) = UNKNOWN", "hold(4, 0, 9) = UNKNOWN", "hold(0, 0, 9) = UNKNOWN",
            "hold(2, 9, 9) = UNKNOWN", "hold(3, 9, 0) = INDEX");
        first(RICH, "copy(8, 0, 4, 0, 1) = UNKNOWN", "copy(4, 0, 8, 0, 1) = UNKNOWN", "copy(0, -1, 8, 0, 1) = UNKNOWN");
    }

    private static void orderOfOpening() {
        first(FULL, "pane() = FULL", "memory(8, 41, 9, true) = UNKNOWN", "memory(8, 1, 1, true) = UNKNOWN",
            "memory(0, 41, 1, true) = OUTSIDE",
            "memory(0, 1, 5, true) = OUTSIDE", "memory(0, 1, 1, true) = FULL", "memory(4, 1, 1, true) = FULL");
        first(FULL, "open(20, 4, true) = UNKNOWN", "open(20, 1, true) = UNKNOWN", "open(0, 4, true) = OUTSIDE",
            "open(3, 4, true) = OUTSIDE",
            "open(3, 2, true) = STATE", "open(0, 1, true) = STATE", "open(1, 2, true) = STATE",
            "open(3, 1, true) = FULL", "open(0, 2, true) = FULL",
            "open(4, 1, true) = FULL", "open(4, 2, true) = FULL");
        first(RICH, "open(0, 4, true) = OUTSIDE", "open(2, 2, true) = STATE", "open(0, 3, true) = STATE");
        first(FULL, "resource(4, true) = UNKNOWN", "resource(1, true) = UNKNOWN", "resource(0, true) = FULL");
        first(FULL, "give(4, 4) = UNKNOWN", "give(4, 2) = UNKNOWN", "give(0, 8) = UNKNOWN");
    }

    private static void orderOfStreams() {
        first(FULL, "put(1, -1) = UNKNOWN", "put(6, -1) = OUTSIDE", "put(8, 1114112) = OUTSIDE",
            "put(13, -1) = OUTSIDE", "put(5, -1) = OUTSIDE",
            "put(6, 65) = STATE", "put(13, 65) = FULL", "put(5, 65) = CAST");
        first(FULL, "seek(6, 0, 2) = 60; put(6, 65) = STATE; get(6) = NONE", "seek(13, 0, 0) = 0; put(13, 65) = 1");
        first(WITHOUT_ARRAY, "put(10, -1) = OUTSIDE", "put(10, 65) = NULL", "get(5) = STATE", "get(10) = NULL",
            "get(1) = UNKNOWN", "get(7) = STATE");
        first(RICH, "seek(1, 0, 3) = UNKNOWN", "seek(2, 0, 3) = OUTSIDE", "seek(2, 0, 2) = STATE",
            "about(1, 8) = UNKNOWN", "about(2, 8) = OUTSIDE",
            "shown(1, -1) = UNKNOWN", "shown(4, -1) = STATE");
        first(RICH, "echo(4, 1) = UNKNOWN", "echo(1, 4) = UNKNOWN", "echo(4, 4) = STATE", "echo(4, 0) = STATE",
            "echo(3, 2) = 0", "current(1) = UNKNOWN");
        first(RICH, "current(0) = 3; say(-1) = OUTSIDE", "current(0) = 3; say(0) = STATE",
            "current(6) = 3; say(-1) = OUTSIDE", "current(6) = 3; say(0) = STATE");
    }

    private static void orderOfFiles() {
        first(FULL, "file(4) = OUTSIDE", "file(0) = FULL", "temporary(4) = OUTSIDE", "temporary(0) = FULL",
            "exists(20) = UNKNOWN", "drop(20) = UNKNOWN",
            "drop(0) = STATE", "drop(13) = 0");
        Run.of("24: STATE before FULL", "temporary(0) # 20; file(4) = OUTSIDE; file(0) = STATE; name(97) = 1",
            "file(0) = FULL");
    }

    /** Two objects of the same state, of which one refuses a call, look the same but for the latest FAULT. */
    private static void unchanged(String state, String... rows) {
        for (String row : rows) {
            String due = row.substring(row.indexOf(" = ") + 3);
            Run other = Run.of("T: They change nothing", state);
            String faultBefore = other.answer("told(7)");
            Run refused = Run.of("T: They change nothing", state, row);
            String faultDue = Run.isFault(due) ? faultNumber(due) : faultBefore;
            Due.same("behind " + row + ": the latest FAULT", refused.answer("told(7)"), faultDue);
            compare(row, all(refused), all(other));
        }
    }

    private static String faultNumber(String name) {
        return String.valueOf(List.of("", "NULL", "CAST", "INDEX", "SIZE", "STORE").indexOf(name));
    }

    private static void compare(String row, List<String> got, List<String> want) {
        Due.is(row + ": what can be seen", got.size(), want.size());
        for (int i = 0; i < want.size() && i < got.size(); i++) {
            Due.same("behind " + row + ": observation " + i, got.get(i), want.get(i));
        }
    }

    /** All that can be seen of an object, which is changed by looking. */
    private static List<String> all(Run run) {
        List<String> seen = new ArrayList<>();
        for (int what = 0; what <= 6; what++) {
            seen.add(run.answer("told(" + what + ")"));
        }
        for (int s = 2; s <= 13; s++) {
            for (int what = 0; what <= 7; what++) {
                seen.add(run.answer("about(" + s + ", " + what + ")"));
            }
        }
        for (int r = 0; r < 8; r++) {
            for (int k = 0; k <= 1; k++) {
                seen.add(run.answer("item(" + r + ", 1, " + k + ")"));
                seen.add(run.answer("item(" + r + ", 2, " + k + ")"));
                seen.add(run.answer("held(" + r + ", " + k + ")"));
            }
        }
        String[] calls = {"exists(0)", "exists(1)", "exists(2)", "exists(3)", "exists(4)", "exists(7)", "shown(2, 0)",
            "shown(2, 1)", "shown(3, 0)",
            "shown(3, 1)", "share()", "name(121)", "name(122)", "sound(0, 0)", "sound(1, 0)", "event()", "event()",
            "event()", "tick(1)", "timer(0)",
            "say(70)", "put(2, 71)", "shown(2, 0)", "shown(3, 0)", "shown(3, 1)", "get(4)", "get(6)", "get(8)",
            "get(8)", "get(8)"};
        for (String call : calls) {
            seen.add(run.answer(call));
        }
        for (int s = 2; s <= 13; s++) {
            seen.add(run.answer("close(" + s + ")"));
        }
        for (int reference : new int[] {0, 1, 7}) {
            readBack(run, reference, seen);
        }
        return seen;
    }

    private static void readBack(Run run, int reference, List<String> seen) {
        String stream = run.answer("open(" + reference + ", 2, false)");
        seen.add(stream);
        for (String at : new String[] {"0, 0", "1, 0", "-1, 2", "0, 2"}) {
            seen.add(run.answer("seek(" + stream + ", " + at + ")"));
            seen.add(run.answer("get(" + stream + ")"));
        }
    }

    private static void refusedRows() {
        unchanged(RICH, "row(8, 1, 1) = UNKNOWN", "row(0, 5, 1) = OUTSIDE", "row(0, 1, 41) = OUTSIDE",
            "row(0, 1, -1) = SIZE", "lend(8, 0) = UNKNOWN",
            "lend(0, 8) = UNKNOWN", "set(8, 1, 0, 1) = UNKNOWN", "set(0, 3, 0, 1) = OUTSIDE",
            "set(0, 2, 0, 1) = CAST", "set(4, 1, 0, 1) = NULL",
            "set(0, 1, 2, 1) = INDEX", "set(0, 1, -1, 1) = INDEX", "item(8, 1, 0) = UNKNOWN",
            "item(0, 3, 0) = OUTSIDE", "item(2, 1, 0) = CAST",
            "item(4, 1, 0) = NULL", "item(1, 2, 2) = INDEX");
        unchanged(RICH, "hold(8, 0, 0) = UNKNOWN", "hold(2, 0, 3) = UNKNOWN", "hold(0, 0, 0) = CAST",
            "hold(4, 0, 0) = NULL", "hold(2, 2, 0) = INDEX",
            "hold(3, 1, 0) = STORE", "held(8, 0) = UNKNOWN", "held(0, 0) = CAST", "held(4, 0) = NULL",
            "held(2, 2) = INDEX", "held(2, 1) = NULL");
        unchanged(RICH, "copy(8, 0, 0, 0, 1) = UNKNOWN", "copy(0, 0, 8, 0, 1) = UNKNOWN",
            "copy(0, 0, 4, 0, 1) = NULL", "copy(4, 0, 0, 0, 1) = NULL",
            "copy(0, 0, 1, 0, 1) = STORE", "copy(0, 0, 0, 1, 2) = INDEX", "copy(0, -1, 0, 0, 1) = INDEX",
            "copy(0, 0, 0, -1, 1) = INDEX",
            "copy(0, 0, 0, 1, -1) = INDEX", "copy(2, 0, 3, 0, 3) = INDEX", "copy(2, 0, 3, 0, 2) = STORE");
    }

    private static void refusedOpening() {
        unchanged(RICH, "memory(8, 1, 1, true) = UNKNOWN", "memory(0, 41, 1, true) = OUTSIDE",
            "memory(0, -1, 1, true) = OUTSIDE",
            "memory(0, 1, 5, true) = OUTSIDE", "open(3, 1, true) = UNKNOWN", "open(0, 4, true) = OUTSIDE",
            "open(2, 2, true) = STATE",
            "open(0, 1, true) = STATE", "open(0, 5, true) = STATE", "open(1, 2, false) = STATE",
            "open(1, 1, false) = STATE", "resource(4, true) = UNKNOWN",
            "resource(1, true) = UNKNOWN", "give(4, 0) = UNKNOWN", "give(0, 8) = UNKNOWN", "give(0, 4) = NULL",
            "give(0, 2) = CAST", "give(0, 3) = CAST");
        unchanged(FULL, "pane() = FULL", "memory(0, 1, 1, true) = FULL", "open(3, 1, true) = FULL",
            "open(3, 3, true) = FULL", "open(3, 5, true) = FULL",
            "open(0, 2, true) = FULL", "open(4, 1, true) = FULL", "resource(0, true) = FULL");
        unchanged(FILES_FULL, "open(3, 1, true) = FULL", "open(3, 3, true) = FULL", "open(3, 5, true) = FULL",
            "open(3, 2, true) = STATE");
    }

    private static void refusedStreams() {
        unchanged(RICH, "put(1, 65) = UNKNOWN", "put(2, -1) = OUTSIDE", "put(2, 1114112) = OUTSIDE",
            "put(6, 65) = STATE", "put(8, 65) = STATE",
            "put(5, 65) = CAST", "get(1) = UNKNOWN", "get(2) = STATE", "get(5) = STATE", "get(7) = STATE");
        unchanged(WITHOUT_ARRAY, "put(10, 65) = NULL", "get(10) = NULL");
        unchanged(RICH + "; put(4, 1) = 1", "put(4, 65) = INDEX", "get(4) = INDEX");
        unchanged(RICH + "; seek(4, 0, 2) = 3; seek(6, 0, 2) = 60; seek(8, 0, 2) = 2", "get(4) = NONE",
            "get(6) = NONE", "get(8) = NONE");
        unchanged(FULL, "put(13, 65) = FULL", "put(13, -1) = OUTSIDE");
        unchanged(RICH, "seek(1, 1, 0) = UNKNOWN", "seek(6, 1, 3) = OUTSIDE", "seek(6, 1, -1) = OUTSIDE",
            "seek(2, 1, 0) = STATE", "close(1) = UNKNOWN",
            "close(0) = UNKNOWN", "close(10) = UNKNOWN", "about(1, 0) = UNKNOWN", "about(2, 8) = OUTSIDE",
            "shown(1, 0) = UNKNOWN", "shown(4, 0) = STATE",
            "shown(2, 20) = NONE", "echo(1, 2) = UNKNOWN", "echo(2, 1) = UNKNOWN", "echo(4, 2) = STATE",
            "echo(3, 2) = 0", "echo(2, 2) = 0",
            "current(1) = UNKNOWN", "current(-1) = UNKNOWN", "say(-1) = OUTSIDE", "say(1114112) = OUTSIDE");
        unchanged(RICH + "; current(0) = 3", "say(65) = STATE");
        unchanged(RICH + "; current(6) = 3", "say(65) = STATE");
        unchanged(RICH + "; current(5) = 3", "say(65) = CAST");
        unchanged(FULL + "; current(13) = 3", "say(65) = FULL");
    }

    private static void refusedFiles() {
        unchanged(RICH, "name(-1) = OUTSIDE", "name(1114112) = OUTSIDE", "file(-1) = OUTSIDE", "file(4) = OUTSIDE",
            "temporary(-1) = OUTSIDE",
            "temporary(4) = OUTSIDE", "exists(3) = UNKNOWN", "exists(2) = NONE", "drop(3) = UNKNOWN", "drop(2) = 0",
            "drop(0) = STATE", "drop(1) = STATE");
        unchanged(RICH + "; file(0) = 3", "file(0) = STATE");
        unchanged(FULL, "file(0) = FULL", "temporary(0) = FULL", "drop(3) = 0");
    }

    private static void refusedRest() {
        unchanged(RICH, "upper(-1) = NONE", "lower(1114112) = NONE", "date(0, 7) = OUTSIDE",
            "date(100000000000001, 0) = OUTSIDE", "timer(-1) = OUTSIDE",
            "timer(1001) = OUTSIDE", "sound(2, 1) = OUTSIDE", "sound(-1, 1) = OUTSIDE", "sound(0, -1) = OUTSIDE",
            "sound(1, 1001) = OUTSIDE",
            "tick(-1) = OUTSIDE", "tick(1001) = OUTSIDE", "told(8) = OUTSIDE", "told(-1) = OUTSIDE");
        unchanged(RICH + "; tick(0) = 2; event() = 1; event() = 1", "event() = 0");
    }
}
