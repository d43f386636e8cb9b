/** Panes, echoes, the current stream: the terms and promises 17 to 22, on both sides of each edge that they name. */
public final class EchoEdgesTest {
    private static final String NAMED = "name(97); file(0) = 0";
    private static final String THREE_PANES = "pane() = 1; pane() = 2; pane() = 3";
    /** One stream of each kind, by its kind's number and 1. */
    private static final String KINDS = NAMED + "; row(0, 1, 2); give(0, 0) = 2; pane() = 1; memory(0, 2, 3, false) = 2"
        + "; open(0, 3, true) = 3; resource(0, false) = 4";
    private static final String[] NO_STREAM = {"-1", "5", "MIN", "MAX"};

    public static void main(String[] args) {
        latest20AreKept();
        shownRefuses();
        closedStream();
        closedIsTheCurrentNoMore();
        closedIsAnEchoNoMore();
        closedFile();
        aboutEach();
        aboutRefuses();
        echoIsOne();
        echoNoneMore();
        echoRings();
        echoRingsAreGone();
        echoRefuses();
        echoByTheRulesOfThatOne();
        echoPassesOverRefusals();
        echoFaults();
        echoAlong();
        currentIsAnother();
        sayPuts();
        sayRefuses();
        Due.end();
    }

    private static void latest20AreKept() {
        for (int n : new int[] {0, 1, 19, 20, 21, 39, 40, 41}) {
            Run run = Run.of("T: SIGNS that are put are shown (the latest 20 are kept); 19: the latest one first; NONE",
                "pane() = 1");
            for (int i = 1; i <= n; i++) {
                run.then("put(1, " + (1000 + i) + ") = 1");
            }
            for (int i = 0; i <= 21; i++) {
                run.then("shown(1, " + i + ") = " + (i < n && i < 20 ? "" + (1000 + n - i) : "NONE"));
            }
            run.then("shown(1, -1) = NONE; shown(1, MIN) = NONE; shown(1, MAX) = NONE; about(1, 3) = " + n);
        }
    }

    private static void shownRefuses() {
        Run.of("19: STATE: no PANE", KINDS, "shown(1, 0) = NONE; shown(2, 0) = STATE; shown(3, 0) = STATE",
            "shown(4, 0) = STATE",
            "shown(2, -1) = STATE");
        for (String s : NO_STREAM) {
            Run.of("19: UNKNOWN", KINDS, "shown(" + s + ", 0) = UNKNOWN");
        }
        Run.of("19: UNKNOWN", KINDS, "put(1, 65) = 1; close(1) = 1; shown(1, 0) = UNKNOWN; shown(0, 0) = UNKNOWN",
            "pane() = 5; shown(5, 0) = NONE");
    }

    private static void closedStream() {
        for (int s = 1; s <= 4; s++) {
            Run run = Run.of("17: A STREAM is closed", KINDS, "told(0) = 4", "close(" + s + ") = 0", "told(0) = 3");
            String[] calls = {"put(%s, 65)", "get(%s)", "seek(%s, 0, 0)", "close(%s)", "about(%s, 0)", "shown(%s, 0)",
                "echo(%s, 0)", "current(%s)"};
            for (String call : calls) {
                run.then(call.replace("%s", "" + s) + " = UNKNOWN");
            }
            run.then("told(0) = 3; told(1) = 0");
        }
        for (String s : new String[] {"0", "-1", "5", "MIN", "MAX"}) {
            Run.of("17: UNKNOWN", KINDS, "close(" + s + ") = UNKNOWN; told(0) = 4");
        }
        Run.of("17: how many SIGNS were put", KINDS, "put(1, 65) = 1 # 25; put(2, 65) = 1 # 3; put(3, 65) = 1 # 15",
            "put(3, 65) = FULL",
            "put(4, 65) = STATE; close(1) = 25; close(2) = 3; close(3) = 15; close(4) = 0");
        Run.of("17: how many SIGNS were put: not by a FAULT, nor got", "row(0, 1, 1); memory(0, 2, 3, false) = 1",
            "get(1) = 0; put(1, 65) = INDEX; close(1) = 0");
    }

    private static void closedIsTheCurrentNoMore() {
        for (int s = 1; s <= 4; s++) {
            int other = s % 4 + 1;
            Run.of("17: it is the current one no more", KINDS, "current(" + s + ") = 0", "close(" + s + ") = 0",
                "told(1) = 0; say(65) = STATE",
                "current(0) = 0");
            Run.of("17: another one stays current", KINDS, "current(" + s + ") = 0", "close(" + other + ") = 0",
                "told(1) = " + s);
        }
        Run.of("17: a later one does not become it", "pane() = 1; current(1) = 0; close(1) = 0; pane() = 2",
            "told(1) = 0; say(65) = STATE");
    }

    private static void closedIsAnEchoNoMore() {
        for (int s = 2; s <= 4; s++) {
            Run.of("17: it is an ECHO no more", KINDS, "echo(1, " + s + ") = 1; about(1, 7) = " + s,
                "close(" + s + ") = 0; about(1, 7) = 0",
                "put(1, 65) = 1; pane() = 5; about(1, 7) = 0; put(1, 66) = 1; shown(5, 0) = NONE");
        }
        Run.of("17: of several", THREE_PANES, "echo(1, 3) = 1; echo(2, 3) = 1; close(3) = 0; about(1, 7) = 0",
            "about(2, 7) = 0");
        Run.of("17: another one stays an ECHO", THREE_PANES, "echo(1, 2) = 1; close(3) = 0; about(1, 7) = 2",
            "put(1, 65) = 1; shown(2, 0) = 65");
        Run.of("17: amid a chain", THREE_PANES, "echo(1, 2) = 1; echo(2, 3) = 1; close(2) = 0; put(1, 65) = 1",
            "shown(3, 0) = NONE; about(1, 7) = 0");
        Run.of("17: at a chain's beginning", THREE_PANES, "echo(1, 2) = 1; echo(2, 3) = 1; close(1) = 0",
            "put(2, 65) = 1; shown(3, 0) = 65");
    }

    private static void closedFile() {
        Run.of("17: a FILE stays", NAMED, "open(0, 1, false) = 1; put(1, 65); close(1) = 1; exists(0) = 1",
            "told(2) = 1");
        Run.of("17: a TEMPORARY one's FILE, too", "temporary(0) = 0; open(0, 1, false) = 1; put(1, 65); close(1) = 1",
            "exists(0) = 1; told(2) = 1");
    }

    private static void aboutEach() {
        String[][] due = {{"0", "0", "0", "0", "0", "1", "", "0"}, {"1", "0", "2", "0", "0", "3", "0", "0"},
            {"2", "0", "0", "0", "0", "3", "1", "0"}, {"3", "0", "2", "0", "0", "2", "0", "0"}};
        for (int kind = 0; kind <= 3; kind++) {
            for (int what = 0; what <= 7; what++) {
                if (!due[kind][what].isEmpty()) {
                    Run.of("18: Of a STREAM, what " + what, KINDS,
                        "about(" + (kind + 1) + ", " + what + ") = " + due[kind][what]);
                }
            }
        }
        Run.of("18: PLACE, END, SIGNS put, got", KINDS, "put(2, 65); get(2) = 0; about(2, 1) = 2; about(2, 2) = 2",
            "about(2, 3) = 1; about(2, 4) = 1",
            "put(3, 65); put(3, 66); seek(3, 1, 0); get(3) = 66; about(3, 1) = 2; about(3, 2) = 2; about(3, 3) = 2",
            "about(3, 4) = 1",
            "get(4) = 0; about(4, 1) = 1; about(4, 2) = 2; about(4, 3) = 0; about(4, 4) = 1; put(1, 65)",
            "about(1, 3) = 1; about(1, 4) = 0");
        // The document gives a PANE no choice: it shows SIGNS above 255 as they are.
        Run.of("18: whether it is WIDE", KINDS, "about(1, 6) = 1; memory(0, 1, 1, true) = 5; about(5, 6) = 1",
            "resource(0, true) = 6; about(6, 6) = 1",
            "temporary(0) = 1; open(1, 1, false) = 7; about(7, 6) = 0");
    }

    private static void aboutRefuses() {
        for (String what : new String[] {"-1", "8", "MIN", "MAX"}) {
            for (int s = 1; s <= 4; s++) {
                Run.of("18: OUTSIDE", KINDS, "about(" + s + ", " + what + ") = OUTSIDE",
                    "about(" + s + ", 0) = " + (s - 1));
            }
        }
        for (String s : NO_STREAM) {
            Run.of("18: UNKNOWN", KINDS, "about(" + s + ", 0) = UNKNOWN", "about(0, 7) = UNKNOWN");
        }
    }

    private static void echoIsOne() {
        Run.of("T: each PANE may have one STREAM", THREE_PANES, "echo(1, 2) = 1; about(1, 7) = 2; echo(1, 3) = 1",
            "about(1, 7) = 3; put(1, 65) = 1",
            "shown(2, 0) = NONE; shown(3, 0) = 65; shown(1, 0) = 65; about(2, 7) = 0; about(3, 7) = 0");
        Run.of("T: several PANES may have the same", THREE_PANES, "echo(1, 3) = 1; echo(2, 3) = 1; put(1, 65) = 1",
            "put(2, 66) = 1; shown(3, 0) = 66",
            "shown(3, 1) = 65; about(3, 3) = 2; close(3) = 2");
        Run.of("T: what is put into it is put there, not the other way", THREE_PANES,
            "echo(1, 2) = 1; put(2, 65) = 1; shown(1, 0) = NONE; about(1, 3) = 0");
        Run.of("T: what was put before is not put there", THREE_PANES, "put(1, 65) = 1; echo(1, 2) = 1",
            "shown(2, 0) = NONE; put(1, 66) = 1; shown(2, 0) = 66",
            "shown(2, 1) = NONE");
    }

    private static void echoNoneMore() {
        Run.of("20: 0: none more", THREE_PANES, "echo(1, 0) = 1; about(1, 7) = 0; echo(1, 2) = 1; about(1, 7) = 2",
            "echo(1, 0) = 1; about(1, 7) = 0",
            "put(1, 65) = 1; shown(2, 0) = NONE");
    }

    private static void echoRings() {
        for (int length = 1; length <= 8; length++) {
            Run run = Run.of("20: 0: it would be a ring", "pane() # 8");
            for (int i = 1; i < length; i++) {
                run.then("echo(" + i + ", " + (i + 1) + ") = 1");
            }
            for (int back = 1; back <= length; back++) {
                run.then("echo(" + length + ", " + back + ") = 0", "about(" + length + ", 7) = 0");
            }
            if (length < 8) {
                run.then("echo(" + length + ", 8) = 1", "put(1, 65) = 1", "shown(8, 0) = 65");
            }
        }
        Run.of("20: a ring changes nothing", THREE_PANES, "echo(1, 2) = 1; echo(2, 3) = 1; echo(2, 1) = 0",
            "about(2, 7) = 3; echo(2, 2) = 0; about(2, 7) = 3",
            "put(1, 65) = 1; shown(3, 0) = 65; told(7) = 0");
        Run.of("20: the same again is no ring", THREE_PANES, "echo(1, 2) = 1; echo(1, 2) = 1; about(1, 7) = 2");
        Run.of("20: a shorter way is no ring", THREE_PANES, "echo(1, 2) = 1; echo(2, 3) = 1; echo(1, 3) = 1",
            "put(1, 65) = 1; shown(2, 0) = NONE");
    }

    private static void echoRingsAreGone() {
        Run.of("20: no ring any more, none there", THREE_PANES, "echo(1, 2) = 1; echo(2, 1) = 0; echo(1, 0) = 1",
            "echo(2, 1) = 1");
        Run.of("20: no ring any more, another there", THREE_PANES, "echo(1, 2) = 1; echo(2, 1) = 0; echo(1, 3) = 1",
            "echo(2, 1) = 1; put(2, 65) = 1",
            "shown(1, 0) = 65; shown(3, 0) = 65");
        Run.of("20: no ring any more, closed", THREE_PANES, "echo(1, 2) = 1; echo(2, 3) = 1; echo(3, 1) = 0",
            "close(2) = 0; echo(3, 1) = 1");
    }

    private static void echoRefuses() {
        for (int to = 0; to <= 4; to++) {
            Run.of("20: A PANE has an ECHO of any kind; STATE: it is no PANE", KINDS,
                "echo(1, " + to + ") = " + (to == 1 ? 0 : 1),
                "about(1, 7) = " + (to == 1 ? 0 : to));
            for (int s = 2; s <= 4; s++) {
                Run.of("20: STATE: it is no PANE", KINDS, "echo(" + s + ", " + to + ") = STATE",
                    "about(" + s + ", 7) = 0");
            }
        }
        for (String s : NO_STREAM) {
            Run.of("20: UNKNOWN (either)", KINDS, "echo(1, 2) = 1", "echo(" + s + ", 1) = UNKNOWN",
                "echo(" + s + ", 0) = UNKNOWN",
                "echo(1, " + s + ") = UNKNOWN", "about(1, 7) = 2", "echo(2, " + s + ") = UNKNOWN");
        }
        Run.of("20: UNKNOWN (either): there is no STREAM 0", KINDS, "echo(0, 1) = UNKNOWN; echo(0, 0) = UNKNOWN",
            "echo(1, 0) = 1");
        Run.of("20: UNKNOWN: it is closed", KINDS, "close(2) = 0; echo(1, 2) = UNKNOWN; about(1, 7) = 0");
    }

    private static void echoByTheRulesOfThatOne() {
        String sentence = "T: put there, too, behind it, by the rules of that one";
        Run.of(sentence, "row(0, 1, 2); pane() = 1; memory(0, 2, 1, false) = 2; echo(1, 2) = 1; put(1, 255) = 1",
            "put(1, 256) = 1; shown(1, 0) = 256",
            "item(0, 1, 0) = -1; item(0, 1, 1) = 63; put(1, 65) = 1; about(2, 3) = 3; about(2, 1) = 2; share() = 6");
        Run.of(sentence, "row(0, 2, 1); pane() = 1; memory(0, 1, 1, true) = 2; echo(1, 2) = 1; put(1, 256) = 1",
            "item(0, 2, 0) = 256");
        Run.of(sentence, NAMED, "pane() = 1; open(0, 5, false) = 2; echo(1, 2) = 1; put(1, 256) = 1; exists(0) = 1",
            "close(2) = 1; open(0, 2, false) = 3",
            "get(3) = 63; shown(1, 0) = 256");
        Run.of(sentence, NAMED, "pane() = 1; open(0, 1, true) = 2; echo(1, 2) = 1; put(1, 256) = 1; exists(0) = 4",
            "seek(2, 0, 0) = 0; put(1, 257) = 1",
            "exists(0) = 4; about(2, 3) = 2");
    }

    private static void echoPassesOverRefusals() {
        String sentence = "T: what that one refuses is passed over";
        Run.of(sentence, "row(0, 1, 1); pane() = 1; memory(0, 1, 2, false) = 2; echo(1, 2) = 1; put(1, 65) = 1",
            "about(1, 3) = 1; about(2, 3) = 0",
            "item(0, 1, 0) = 0; shown(1, 0) = 65; told(7) = 0");
        Run.of(sentence, "pane() = 1; memory(0, 1, 2, false) = 2; echo(1, 2) = 1; put(1, 65) = 1; told(7) = 0");
        Run.of(sentence, "row(0, 1, 1); give(0, 0) = 1; pane() = 1; resource(0, false) = 2; echo(1, 2) = 1",
            "put(1, 65) = 1; about(2, 3) = 0");
        Run.of(sentence, NAMED, "pane() = 1; open(0, 1, false) = 2; echo(1, 2) = 1; put(2, 65) = 1 # 59",
            "put(1, 66) = 1; exists(0) = 60; about(2, 3) = 60",
            "put(1, 67) = 1; exists(0) = 60; about(2, 3) = 60; about(1, 3) = 2; shown(1, 0) = 67; told(7) = 0");
        Run.of("14: OUTSIDE puts nothing along", "pane() = 1; pane() = 2; echo(1, 2) = 1; put(1, 1114112) = OUTSIDE",
            "about(1, 3) = 0; about(2, 3) = 0");
    }

    private static void echoFaults() {
        String sentence = "T: a FAULT there is the answer (what was put by then is put)";
        String panes = THREE_PANES + "; echo(1, 2) = 1; echo(2, 3) = 1";
        String put = "; shown(1, 0) = 65; shown(2, 0) = 65; shown(3, 0) = 65; about(1, 3) = 1; about(2, 3) = 1"
            + "; about(3, 3) = 1; about(4, 3) = 0";
        Run.of(sentence, panes, "memory(0, 1, 1, false) = 4; echo(3, 4) = 1; put(1, 65) = NULL; told(7) = 1" + put);
        Run.of(sentence, panes, "row(0, 2, 1); memory(0, 1, 1, false) = 4; echo(3, 4) = 1; put(1, 65) = CAST",
            "told(7) = 2" + put);
        Run.of(sentence, panes, "row(0, 1, 0); memory(0, 1, 1, false) = 4; echo(3, 4) = 1; put(1, 65) = INDEX",
            "told(7) = 3" + put);
        Run.of(sentence, panes, "row(0, 1, 1); memory(0, 1, 1, false) = 4; echo(3, 4) = 1; put(1, 65) = 1",
            "told(7) = 0; item(0, 1, 0) = 65");
        Run.of(sentence + ": what was put counts", panes, "memory(0, 0, 1, false) = 4; put(4, 65) = 1",
            "memory(0, 1, 1, false) = 5; echo(3, 5) = 1",
            "share() = 1; put(1, 65) = NULL; share() = 4");
    }

    private static void echoAlong() {
        Run run = Run.of("T: so on, if that is a PANE", "pane() # 8");
        for (int i = 1; i < 8; i++) {
            run.then("echo(" + i + ", " + (i + 1) + ") = 1");
        }
        run.then("put(1, 65) = 1; put(8, 66) = 1; put(7, 67) = 1");
        for (int i = 1; i <= 8; i++) {
            run.then("about(" + i + ", 3) = " + (i == 8 ? 3 : i == 7 ? 2 : 1),
                "shown(" + i + ", 0) = " + (i >= 7 ? 67 : 65));
        }
    }

    private static void currentIsAnother() {
        for (int s = 1; s <= 4; s++) {
            Run.of("21: The current STREAM is another one (0: none): what it was (0)", KINDS,
                "told(1) = 0; current(" + s + ") = 0; told(1) = " + s,
                "current(" + s + ") = " + s, "current(1) = " + s, "current(0) = 1; told(1) = 0; current(0) = 0");
        }
        for (String s : NO_STREAM) {
            Run.of("21: UNKNOWN", KINDS, "current(" + s + ") = UNKNOWN; told(1) = 0; current(3) = 0",
                "current(" + s + ") = UNKNOWN; told(1) = 3");
        }
    }

    private static void sayPuts() {
        Run.of("22: put into the current STREAM, as by put()", KINDS, "current(1) = 0; say(65) = 1; shown(1, 0) = 65",
            "current(2) = 1; say(66) = 1; item(0, 1, 0) = 66",
            "current(3) = 2; say(67) = 1; exists(0) = 4; current(4) = 3; say(68) = STATE; about(1, 3) = 1",
            "about(2, 3) = 1; about(3, 3) = 1");
        Run.of("22: along its ECHO", THREE_PANES, "echo(2, 3) = 1; current(2) = 0; say(65) = 1; shown(3, 0) = 65",
            "shown(1, 0) = NONE");
        Run.of("22: 256 as 63 where it is not WIDE", "row(0, 1, 2); memory(0, 2, 1, false) = 1; current(1) = 0",
            "say(255) = 1; say(256) = 1; item(0, 1, 0) = -1",
            "item(0, 1, 1) = 63; say(65) = 1; about(1, 3) = 3; share() = 3");
        Run.of("22: FULL", NAMED, "open(0, 1, false) = 1; current(1) = 0; say(65) = 1 # 60; say(65) = FULL",
            "exists(0) = 60; about(1, 3) = 60");
        for (int sort = 0; sort <= 4; sort++) {
            String due = sort == 0 ? "NULL" : sort == 1 ? "INDEX" : "CAST";
            Run.of("22: FAULTS", "row(0, " + sort + ", 0); memory(0, 1, 1, false) = 1; current(1) = 0",
                "say(65) = " + due, "about(1, 3) = 0");
        }
    }

    private static void sayRefuses() {
        Run.of("22: STATE: there is none", "say(65) = STATE; pane() = 1; say(65) = STATE; current(1) = 0; say(65) = 1",
            "current(0) = 1; say(65) = STATE",
            "about(1, 3) = 1");
        for (String c : new String[] {"-1", "1114112", "MIN", "MAX"}) {
            Run.of("22: OUTSIDE, as by put()", "pane() = 1; current(1) = 0; say(" + c + ") = OUTSIDE; about(1, 3) = 0",
                "current(0); say(" + c + ") = OUTSIDE");
        }
        for (String c : new String[] {"0", "1114111"}) {
            Run.of("22: a SIGN", "pane() = 1; say(" + c + ") = STATE; current(1) = 0; say(" + c + ") = 1",
                "shown(1, 0) = " + c);
        }
    }
}
