/** Promises 23 to 27: files. */
public final class FilesTest {
    private static final int NONE = -1, UNKNOWN = -2, OUTSIDE = -3, STATE = -4, FULL = -5;
    private static final int WRITE = 1, READ = 2, BOTH = 3;

    public static void main(String[] args) {
        promise23();
        promise23EverySign();
        promise24();
        promise24Full();
        promise25();
        promise26();
        promise27();
        Due.end();
    }

    private static int named(GlkStreams x, int use, String name) {
        for (int i = 0; i < name.length(); i++) {
            x.name(name.charAt(i));
        }
        return x.file(use);
    }

    private static void promise23() {
        GlkStreams x = new GlkStreams();
        Due.is("23: below", x.name(-1), OUTSIDE);
        Due.is("23: beyond", x.name(1114112), OUTSIDE);
        Due.is("23: outside is not changed", x.told(4), 0);
        for (int i = 1; i <= 8; i++) {
            Due.is("23: sign " + i, x.name('a' + i), i);
        }
        Due.is("23: the 9th", x.name('z'), 8);
        Due.is("23: does not count", x.told(4), 0);
        Due.is("23: an unsafe one behind", x.name('*'), 8);
        Due.is("23: counts", x.told(4), 1);
        Due.is("23: a dot", x.name('.'), 8);
        Due.is("23: counts", x.told(4), 2);
        Due.is("23: behind it", x.name('z'), 8);
        Due.is("23: counts", x.told(4), 3);
        Due.is("23: a second dot", x.name('.'), 8);
        Due.is("23: unsafe behind it", x.name('/'), 8);
        Due.is("23: each counts once", x.told(4), 5);
        Due.is("23: file", x.file(0), 0);
        Due.is("23: changed stays", x.told(4), 5);
        Due.is("23: begun anew", x.name('a'), 1);
        Due.is("23: last sign", x.name(1114111), 1);
        Due.is("23: changed goes on", x.told(4), 6);
    }

    private static void promise23EverySign() {
        String unsafe = "/\\<>:\"|?*";
        for (int c = 0; c < 400; c++) {
            GlkStreams x = new GlkStreams();
            boolean out = c < 32 || c > 126 || c == '.' || unsafe.indexOf(c) >= 0;
            Due.is("23: name(" + c + ")", x.name(c), out ? 0 : 1);
            Due.is("23: changed by " + c, x.told(4), out ? 1 : 0);
            Due.is("23: behind " + c, x.name('a'), c == '.' ? 0 : out ? 1 : 2);
        }
    }

    private static void promise24() {
        GlkStreams x = new GlkStreams();
        Due.is("24: empty", x.file(0), STATE);
        Due.is("24: outside before state", x.file(4), OUTSIDE);
        x.name('.');
        Due.is("24: behind a dot", x.name('a'), 0);
        Due.is("24: outside", x.file(-1), OUTSIDE);
        Due.is("24: the dot still holds", x.name('a'), 0);
        Due.is("24: empty", x.file(0), STATE);
        Due.is("24: begun anew", x.name('a'), 1);
        Due.is("24: use 4", x.file(4), OUTSIDE);
        Due.is("24: the name stays", x.name('b'), 2);
        Due.is("24: file", x.file(3), 0);
        Due.is("24: empty then", x.file(3), STATE);
        Due.is("24: the same again", named(x, 3, "a/b.c"), 1);
        Due.is("24: another use", named(x, 2, "ab"), 2);
        Due.is("24: another name", named(x, 3, "aB"), 3);
        Due.is("24: a longer name", named(x, 3, "abb"), 4);
        Due.is("24: 4 to come", x.told(3), 5);
        x.open(0, WRITE, false);
        x.put(1, 65);
        Due.is("24: two name one", x.exists(1), 1);
        for (int other = 2; other <= 4; other++) {
            Due.is("24: reference " + other, x.exists(other), NONE);
        }
        Due.is("24: eight signs", named(x, 3, "abcdefgh"), 5);
        Due.is("24: nine signs", named(x, 3, "abcdefghi"), 6);
        x.open(5, WRITE, false);
        Due.is("24: are eight", x.exists(6), 0);
        Due.is("24: a space", named(x, 0, " "), 7);
        Due.is("24: use 0", named(x, 0, "~"), 8);
    }

    private static void promise24Full() {
        GlkStreams x = new GlkStreams();
        for (int i = 0; i < 20; i++) {
            Due.is("24: reference", named(x, i % 4, "n"), i);
        }
        Due.is("24: the 21st", named(x, 0, "m"), FULL);
        Due.is("24: the name stays", x.name('n'), 2);
        Due.is("24: outside before full", x.file(4), OUTSIDE);
        Due.is("24: 20 of them", x.told(3), 20);
        Due.is("24: no temporary one either", x.temporary(0), FULL);
        x = new GlkStreams();
        for (int i = 0; i < 20; i++) {
            x.temporary(0);
        }
        Due.is("24: state before full", x.file(0), STATE);
        Due.is("24: full", named(x, 0, "m"), FULL);
    }

    private static void promise25() {
        GlkStreams x = new GlkStreams();
        Due.is("25: use -1", x.temporary(-1), OUTSIDE);
        Due.is("25: use 4", x.temporary(4), OUTSIDE);
        for (int i = 0; i < 20; i++) {
            Due.is("25: temporary", x.temporary(i % 4), i);
        }
        Due.is("25: the 21st", x.temporary(0), FULL);
        Due.is("25: outside before full", x.temporary(4), OUTSIDE);
        Due.is("25: 20 of them", x.told(3), 20);
        Due.is("25: no files yet", x.told(2), 0);
        Due.is("25: not there yet", x.exists(0), NONE);
        x.open(0, WRITE, false);
        Due.is("25: a file of its own", x.exists(0), 0);
        Due.is("25: not of another of its use", x.exists(4), NONE);
        x = new GlkStreams();
        x.name('a');
        Due.is("25: leaves the name", x.temporary(0), 0);
        Due.is("25: as it is", x.name('b'), 2);
        Due.is("25: numbers go on", x.file(0), 1);
    }

    private static void promise26() {
        GlkStreams x = new GlkStreams();
        Due.is("26: none", x.exists(0), UNKNOWN);
        named(x, 0, "a");
        Due.is("26: not there", x.exists(0), NONE);
        Due.is("26: below", x.exists(-1), UNKNOWN);
        Due.is("26: beyond", x.exists(1), UNKNOWN);
        Due.is("26: far beyond", x.exists(20), UNKNOWN);
        x.open(0, WRITE, true);
        Due.is("26: no bytes", x.exists(0), 0);
        x.put(1, 65);
        Due.is("26: four bytes", x.exists(0), 4);
    }

    private static void promise27() {
        GlkStreams x = new GlkStreams();
        Due.is("27: none", x.drop(0), UNKNOWN);
        named(x, 0, "a");
        named(x, 0, "a");
        Due.is("27: below", x.drop(-1), UNKNOWN);
        Due.is("27: beyond", x.drop(2), UNKNOWN);
        Due.is("27: not there", x.drop(0), 0);
        x.open(0, WRITE, false);
        x.put(1, 65);
        Due.is("27: a stream writes it", x.drop(0), STATE);
        Due.is("27: by either reference", x.drop(1), STATE);
        x.close(1);
        x.open(0, READ, false);
        Due.is("27: a stream reads it", x.drop(1), STATE);
        Due.is("27: it stays", x.exists(0), 1);
        x.close(2);
        Due.is("27: goes", x.drop(1), 1);
        Due.is("27: is not there", x.exists(0), NONE);
        Due.is("27: no files", x.told(2), 0);
        Due.is("27: again", x.drop(0), 0);
        Due.is("27: no files", x.told(2), 0);
        Due.is("27: the references stay", x.told(3), 2);
        x.open(0, BOTH, false);
        Due.is("27: what it had is gone", x.exists(0), 0);
    }
}
