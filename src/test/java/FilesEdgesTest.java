/** Files, references and the name at hand: the terms and promises 23 to 27, on both sides of each edge. */
public final class FilesEdgesTest {
    private static final String UNSAFE = "/\\<>:\"|?*";

    public static void main(String[] args) {
        signsLeftOut();
        unsafeSignsLeftOut();
        allFromADotOn();
        the9thIsLeftOut();
        namesAreSigns();
        changedGoesOn();
        uses();
        nameIsEmptyThen();
        begunAnew();
        twoMayNameOne();
        twentyReferences();
        temporaryOnes();
        bytesOfAFile();
        dropped();
        droppedUnderAStream();
        noSuchReference();
        Due.end();
    }

    /** The calls that bring a name, whose signs are all safe or told by number. */
    private static String named(int use, String name, int due) {
        StringBuilder calls = new StringBuilder();
        for (int i = 0; i < name.length(); i++) {
            calls.append("name(").append((int) name.charAt(i)).append("); ");
        }
        return calls.append("file(").append(use).append(") = ").append(due).toString();
    }

    private static void signsLeftOut() {
        int[] out = {0, 31, 127, 128, 255, 256, 1114111};
        int[] in = {32, 33, 48, 57, 65, 90, 97, 122, 125, 126};
        for (int c : out) {
            Run.of("T: those below 32, above 126 are left out (counted as CHANGED)",
                "name(" + c + ") = 0; told(4) = 1; name(97) = 1; name(" + c + ") = 1",
                "told(4) = 2; name(98) = 2; file(0) = 0", named(0, "ab", 1), "open(0, 1, false) = 1; exists(1) = 0");
        }
        for (int c : in) {
            Run.of("T: those of 32 to 126 are not", "name(" + c + ") = 1; told(4) = 0; file(0) = 0",
                "open(0, 1, false) = 1",
                "name(" + (c == 97 ? 98 : 97) + "); file(0) = 1; exists(1) = NONE; name(" + c + "); file(0) = 2",
                "exists(2) = 0");
        }
    }

    private static void unsafeSignsLeftOut() {
        for (int c = 32; c <= 126; c++) {
            boolean out = UNSAFE.indexOf(c) >= 0 || c == '.';
            Run.of("T: and / \\ < > : \" | ? * are left out (counted as CHANGED)",
                "name(" + c + ") = " + (out ? 0 : 1), "told(4) = " + (out ? 1 : 0),
                "name(97) = " + (c == '.' ? 0 : out ? 1 : 2), "told(4) = " + (c == '.' ? 2 : out ? 1 : 0));
        }
    }

    private static void allFromADotOn() {
        String sentence = "T: as is (and counts so) all from a . on";
        Run.of(sentence, "name(97) = 1; name(46) = 1; told(4) = 1; name(98) = 1; told(4) = 2; name(46) = 1",
            "told(4) = 3; name(47) = 1; told(4) = 4",
            "name(31) = 1; told(4) = 5; name(1114111) = 1; told(4) = 6; file(0) = 0; told(4) = 6", named(0, "a", 1),
            "open(0, 1, false) = 1; exists(1) = 0");
        Run.of(sentence + ": no further than this NAME", "name(97) = 1; name(46) = 1; file(0) = 0; name(98) = 1",
            "told(4) = 1; name(99) = 2");
        Run.of(sentence + ": what was before it stays", "name(97) # 8; name(46) = 8; told(4) = 1; name(98) = 8",
            "told(4) = 2; file(0) = 0",
            named(0, "aaaaaaaa", 1), "open(0, 1, false) = 1; exists(1) = 0");
        Run.of(sentence + ": 45 and 47 are no .", "name(45) = 1; name(47) = 1; name(97) = 2");
    }

    private static void the9thIsLeftOut() {
        Run run = Run.of("T: a SIGN that would be the 9th is left out, too (and does not count)");
        for (int i = 1; i <= 8; i++) {
            run.then("name(" + (96 + i) + ") = " + i);
        }
        run.then("told(4) = 0; name(105) = 8; told(4) = 0; name(106) = 8; told(4) = 0; file(0) = 0",
            named(0, "abcdefgh", 1), named(0, "abcdefg", 2),
            named(0, "abcdefghi", 3), named(0, "abcdefgi", 4), "open(0, 1, false) = 1; exists(1) = 0",
            "exists(2) = NONE; exists(3) = 0; exists(4) = NONE");
        Run.of("T: one that would not be in it anyway counts", "name(97) # 8; name(47) = 8; told(4) = 1",
            "name(127) = 8; told(4) = 2; name(31) = 8; told(4) = 3");
        Run.of("T: one that was left out takes no place", "name(47) = 0 # 5; name(97) # 7; name(63) = 7; name(98) = 8",
            "name(99) = 8; told(4) = 6");
    }

    private static void namesAreSigns() {
        for (String c : new String[] {"-1", "1114112", "MIN", "MAX"}) {
            Run.of("23: OUTSIDE", "name(97) = 1; name(" + c + ") = OUTSIDE; told(4) = 0; name(98) = 2");
            Run.of("23: OUTSIDE behind a .", "name(46) = 0; name(" + c + ") = OUTSIDE; told(4) = 1");
        }
        Run.of("23: a SIGN", "name(0) = 0; name(1114111) = 0; told(4) = 2");
    }

    private static void changedGoesOn() {
        Run.of("35: CHANGED", "name(47); name(97); file(0) = 0; told(4) = 1; name(46); file(0) = STATE; told(4) = 2",
            "name(63); told(4) = 3");
        Run.of("35: CHANGED, of 512 calls", "name(47) = 0 # 511; told(4) = 511");
    }

    private static void uses() {
        for (int use = 0; use <= 3; use++) {
            Run.of("24, 25: a USE (0 to 3)", named(use, "a", 0), "temporary(" + use + ") = 1; told(3) = 2");
        }
        for (String use : new String[] {"-1", "4", "MIN", "MAX"}) {
            Run.of("24: OUTSIDE: USE", "name(97) = 1; file(" + use + ") = OUTSIDE; told(3) = 0; name(98) = 2",
                "file(0) = 0", named(0, "ab", 1),
                "open(0, 1, false) = 1; exists(1) = 0");
            Run.of("24: OUTSIDE before STATE", "name(46) = 0; file(" + use + ") = OUTSIDE; name(97) = 0",
                "file(0) = STATE; name(97) = 1");
            Run.of("25: OUTSIDE", "temporary(" + use + ") = OUTSIDE; told(3) = 0; temporary(0) = 0");
        }
    }

    private static void nameIsEmptyThen() {
        Run.of("24: THE NAME, which is empty then", "name(97) = 1; file(0) = 0; file(0) = STATE; name(98) = 1",
            "file(0) = 1; exists(0) = NONE",
            "open(1, 1, false) = 1; exists(0) = NONE; exists(1) = 0", named(0, "b", 2), "exists(2) = 0");
        Run.of("24: a full one is empty then", "name(97) # 9; file(0) = 0; name(98) = 1");
    }

    private static void begunAnew() {
        String sentence = "24: STATE: THE NAME is empty (it is begun anew then, as by a . that was never put)";
        Run.of(sentence, "file(0) = STATE; told(3) = 0; name(97) = 1; file(0) = 0");
        Run.of(sentence, "name(46) = 0; name(97) = 0; file(0) = STATE; told(4) = 2; name(97) = 1; told(4) = 2",
            "file(0) = 0");
        Run.of(sentence, "name(46) = 0; temporary(0) = 0; name(97) = 0; file(3) = STATE; name(97) = 1");
        Run.of(sentence, "name(47) = 0; name(200) = 0; file(0) = STATE; name(97) = 1; file(0) = 0");
    }

    private static void twoMayNameOne() {
        Run.of("T: REFERENCES name a FILE by its USE and NAME (two may name one)", named(0, "ab", 0),
            named(0, "ab", 1), named(1, "ab", 2),
            named(0, "aB", 3), named(0, "a", 4), named(0, "abc", 5), named(0, "ba", 6), named(0, "ab ", 7),
            "open(0, 1, false) = 1; put(1, 65); close(1)",
            "exists(0) = 1; exists(1) = 1; exists(2) = NONE; exists(3) = NONE; exists(4) = NONE; exists(5) = NONE",
            "exists(6) = NONE; exists(7) = NONE",
            "told(2) = 1; told(3) = 8; open(1, 5, false) = 2; put(2, 66); close(2); exists(0) = 2; told(2) = 1");
        Run.of("T: two that name one, by another way to it", "name(47); name(97); name(46); name(98); file(2) = 0",
            named(2, "a", 1),
            "open(1, 1, true) = 1; put(1, 65); exists(0) = 4");
        Run.of("T: one that names it when it is there", named(0, "a", 0), "open(0, 1, false) = 1; put(1, 65)",
            named(0, "a", 1), "exists(1) = 1",
            "open(1, 2, false) = STATE; close(1); open(1, 2, false) = 2; get(2) = 65");
        Run.of("T: one that names it when it has gone", named(0, "a", 0), "open(0, 1, false) = 1; put(1, 65)",
            "close(1); drop(0) = 1", named(0, "a", 1),
            "exists(1) = NONE; open(1, 5, false) = 2; exists(0) = 0; told(2) = 1");
    }

    private static void twentyReferences() {
        for (int temporary = 0; temporary <= 20; temporary += 10) {
            Run run = Run.of("T: REFERENCES, numbered from 0, 20 at most; 24, 25: FULL");
            for (int i = 0; i < 19; i++) {
                run.then(i < temporary ? "temporary(0) = " + i : named(0, "n", i));
            }
            run.then("told(3) = 19; exists(18) = NONE; exists(19) = UNKNOWN",
                temporary == 20 ? "temporary(0) = 19" : named(0, "n", 19),
                "told(3) = 20; exists(19) = NONE; exists(20) = UNKNOWN", "temporary(0) = FULL; file(0) = STATE",
                "name(97) = 1; file(0) = FULL",
                "name(98) = 2; file(0) = FULL; name(46) = 2; file(0) = FULL; name(99) = 2; told(3) = 20",
                "temporary(4) = OUTSIDE; file(4) = OUTSIDE");
        }
        Run.of("T: 20 at most: they never go", "temporary(0) # 20; open(0, 1, false) = 1; close(1); drop(0) = 1",
            "temporary(0) = FULL; told(3) = 20");
    }

    private static void temporaryOnes() {
        Run.of("T: TEMPORARY ones a FILE of their own", "temporary(0) = 0; temporary(0) = 1", named(0, "a", 2),
            "open(0, 1, false) = 1; exists(0) = 0",
            "exists(1) = NONE; exists(2) = NONE; told(2) = 1; open(1, 1, false) = 2; open(2, 1, false) = 3",
            "told(2) = 3");
        Run.of("25: its FILE is not there before it is opened", "temporary(0) = 0; told(2) = 0; exists(0) = NONE",
            "open(0, 2, false) = STATE; drop(0) = 0");
        Run.of("25: THE NAME stays", "name(97) = 1; temporary(0) = 0; name(98) = 2; file(0) = 1");
    }

    private static void bytesOfAFile() {
        for (int n : new int[] {0, 1, 59, 60}) {
            Run.of("26: How many bytes the FILE has", named(0, "a", 0), "exists(0) = NONE; open(0, 1, false) = 1",
                "exists(0) = 0",
                n == 0 ? "" : "put(1, 65) = 1 # " + n, "exists(0) = " + n, "close(1); exists(0) = " + n);
        }
        for (int n : new int[] {1, 14, 15}) {
            Run.of("26: How many bytes, of WIDE ones", named(0, "a", 0), "open(0, 1, true) = 1",
                "put(1, 65) = 1 # " + n, "exists(0) = " + 4 * n);
        }
        Run.of("26: NONE: it is not there", named(0, "a", 0), "exists(0) = NONE; open(0, 1, false) = 1; close(1)",
            "exists(0) = 0; drop(0) = 1; exists(0) = NONE");
    }

    private static void dropped() {
        Run.of("27: The FILE goes: 1; 0: it was not there", named(0, "a", 0), named(0, "a", 1),
            "drop(0) = 0; open(0, 1, false) = 1; put(1, 65); close(1)",
            "told(2) = 1; drop(1) = 1; told(2) = 0; exists(0) = NONE; exists(1) = NONE; drop(0) = 0; drop(1) = 0",
            "told(2) = 0; told(3) = 2");
        for (int mode : new int[] {1, 3, 5}) {
            Run.of("27: what it had is gone", named(0, "a", 0), "open(0, 1, false) = 1; put(1, 65) # 5; close(1)",
                "drop(0) = 1",
                "open(0, " + mode + ", false) = 2; exists(0) = 0; about(2, 1) = 0; about(2, 2) = 0");
        }
        Run.of("27: one of no bytes goes, too", "temporary(0) = 0; open(0, 1, false) = 1; close(1); drop(0) = 1",
            "drop(0) = 0");
        Run.of("27: another FILE stays", named(0, "a", 0), named(1, "a", 1), "open(0, 1, false) = 1",
            "open(1, 1, false) = 2; put(2, 65); close(1)",
            "drop(0) = 1; exists(1) = 1; told(2) = 1; put(2, 66) = 1");
    }

    private static void droppedUnderAStream() {
        for (int mode : new int[] {1, 2, 3, 5}) {
            Run.of("27: STATE: a STREAM is open on it", named(0, "a", 0), named(0, "a", 1), named(0, "b", 2),
                "open(0, 1, false) = 1; close(1)",
                "open(0, " + mode + ", true) = 2; drop(0) = STATE; drop(1) = STATE; drop(2) = 0; exists(0) = 0",
                "told(2) = 1",
                "close(2); drop(1) = 1; exists(0) = NONE");
        }
    }

    private static void noSuchReference() {
        for (String reference : new String[] {"-1", "2", "20", "MIN", "MAX"}) {
            Run.of("26, 27: UNKNOWN", named(0, "a", 0), "temporary(0) = 1", "exists(" + reference + ") = UNKNOWN",
                "drop(" + reference + ") = UNKNOWN",
                "exists(0) = NONE; exists(1) = NONE; drop(0) = 0; drop(1) = 0");
        }
    }
}
