/** Promises 1 to 8: a new object, and rows. */
public final class RowsTest {
    private static final int UNKNOWN = -2, OUTSIDE = -3;
    private static final int NULL = -11, CAST = -12, INDEX = -13, SIZE = -14, STORE = -15;
    private static final int MIN = Integer.MIN_VALUE, MAX = Integer.MAX_VALUE;

    public static void main(String[] args) {
        constants();
        promise1();
        promise2();
        promise3();
        promise4();
        promise5();
        promise6();
        promise7();
        promise8();
        promise8Kinds();
        promise8References();
        Due.end();
    }

    private static long refused(int answer) {
        return Long.MIN_VALUE - answer;
    }

    private static void constants() {
        Due.is("NONE", GlkStreams.NONE, -1);
        Due.is("UNKNOWN", GlkStreams.UNKNOWN, -2);
        Due.is("OUTSIDE", GlkStreams.OUTSIDE, -3);
        Due.is("STATE", GlkStreams.STATE, -4);
        Due.is("FULL", GlkStreams.FULL, -5);
        Due.is("REFUSED", GlkStreams.REFUSED, Long.MIN_VALUE);
    }

    private static void promise1() {
        GlkStreams x = new GlkStreams();
        for (int what = 0; what <= 7; what++) {
            Due.is("1: told(" + what + ")", x.told(what), 0);
        }
        for (int r = 0; r < 8; r++) {
            Due.is("1: item of row " + r, x.item(r, 1, 0), refused(NULL));
        }
        for (int n = 0; n < 4; n++) {
            Due.is("1: resource " + n, x.resource(n, true), UNKNOWN);
        }
        Due.is("1: exists(0)", x.exists(0), UNKNOWN);
        Due.is("1: about(1, 0)", x.about(1, 0), UNKNOWN);
        Due.is("1: event()", x.event(), 0);
        Due.is("1: file(0), no name", x.file(0), -4);
        Due.is("1: timer(0)", x.timer(0), 0);
        Due.is("1: sound(0, 0)", x.sound(0, 0), 0);
        Due.is("1: sound(1, 0)", x.sound(1, 0), 0);
        GlkStreams y = new GlkStreams();
        x.row(0, 1, 3);
        Due.is("1: objects are apart", y.item(0, 1, 0), refused(NULL));
    }

    private static void promise2() {
        GlkStreams x = new GlkStreams();
        for (int sort = 1; sort <= 4; sort++) {
            Due.is("2: sort " + sort, x.row(sort, sort, 40), 1);
            Due.is("2: empty", x.row(sort - 1, sort, 0), 1);
        }
        Due.is("2: row(0, 2, 40)", x.row(0, 2, 40), 1);
        Due.is("2: items are 0", x.item(0, 2, 39), 0);
        Due.is("2: no 41st", x.item(0, 2, 40), refused(INDEX));
        Due.is("2: 41 items", x.row(0, 2, 41), OUTSIDE);
        Due.is("2: most items", x.row(0, 2, MAX), OUTSIDE);
        Due.is("2: sort 5", x.row(0, 5, 1), OUTSIDE);
        Due.is("2: sort -1", x.row(0, -1, 1), OUTSIDE);
        Due.is("2: a refusal is no fault", x.told(7), 3);
        Due.is("2: -1 items", x.row(0, 1, -1), SIZE);
        Due.is("2: fewest items", x.row(0, 4, MIN), SIZE);
        Due.is("2: the fault", x.told(7), 4);
        Due.is("2: row -1", x.row(-1, 1, 1), UNKNOWN);
        Due.is("2: row 8", x.row(8, 9, 99), UNKNOWN);
        Due.is("2: sort before size", x.row(0, 9, -1), OUTSIDE);
        Due.is("2: refusals change nothing", x.item(0, 2, 39), 0);
        Due.is("2: nothing of 99", x.row(0, 0, 99), 1);
        Due.is("2: nothing there", x.item(0, 2, 0), refused(NULL));
        Due.is("2: nothing of -1", x.row(7, 0, -1), 1);
        x.row(1, 1, 2);
        x.set(1, 1, 0, 9);
        x.row(1, 1, 2);
        Due.is("2: a new array", x.item(1, 1, 0), 0);
        x.row(2, 3, 1);
        x.row(3, 4, 1);
        Due.is("2: references are nothing", x.held(2, 0), NULL);
        Due.is("2: temporary ones are nothing", x.held(3, 0), NULL);
    }

    private static void promise3() {
        GlkStreams x = new GlkStreams();
        x.row(0, 2, 3);
        Due.is("3: lend(7, 0)", x.lend(7, 0), 1);
        x.set(7, 2, 1, 77);
        Due.is("3: the same array", x.item(0, 2, 1), 77);
        x.row(0, 0, 0);
        Due.is("3: it stays with the other", x.item(7, 2, 1), 77);
        Due.is("3: to itself", x.lend(7, 7), 1);
        Due.is("3: unchanged", x.item(7, 2, 1), 77);
        Due.is("3: row 8", x.lend(8, 0), UNKNOWN);
        Due.is("3: from -1", x.lend(7, -1), UNKNOWN);
        Due.is("3: from 8", x.lend(7, 8), UNKNOWN);
        Due.is("3: row -1", x.lend(-1, 7), UNKNOWN);
        Due.is("3: refusals change nothing", x.item(7, 2, 1), 77);
        Due.is("3: lends nothing", x.lend(7, 0), 1);
        Due.is("3: nothing there", x.item(7, 2, 1), refused(NULL));
    }

    private static void promise4() {
        GlkStreams x = new GlkStreams();
        x.row(0, 1, 2);
        x.row(1, 2, 2);
        x.row(2, 3, 2);
        x.row(3, 4, 2);
        Due.is("4: set a byte", x.set(0, 1, 0, 200), 1);
        Due.is("4: cut to 8 bits", x.item(0, 1, 0), -56);
        Due.is("4: set a byte", x.set(0, 1, 1, 0x17F), 1);
        Due.is("4: cut to 8 bits", x.item(0, 1, 1), 127);
        Due.is("4: set an int", x.set(1, 2, 1, MIN), 1);
        Due.is("4: whole", x.item(1, 2, 1), MIN);
        Due.is("4: row 8", x.set(8, 0, 0, 0), UNKNOWN);
        Due.is("4: row -1", x.set(-1, 1, 0, 0), UNKNOWN);
        Due.is("4: sort 0", x.set(0, 0, 0, 0), OUTSIDE);
        Due.is("4: sort 3", x.set(2, 3, 0, 0), OUTSIDE);
        Due.is("4: sort 5", x.set(0, 5, 0, 0), OUTSIDE);
        Due.is("4: bytes as ints", x.set(0, 2, 9, 0), CAST);
        Due.is("4: latest fault", x.told(7), 2);
        Due.is("4: ints as bytes", x.set(1, 1, 0, 0), CAST);
        Due.is("4: references as ints", x.set(2, 2, 0, 0), CAST);
        Due.is("4: temporary ones as bytes", x.set(3, 1, 0, 0), CAST);
        Due.is("4: nothing", x.set(4, 1, -1, 0), NULL);
        Due.is("4: latest fault", x.told(7), 1);
        Due.is("4: item -1", x.set(0, 1, -1, 0), INDEX);
        Due.is("4: item 2", x.set(1, 2, 2, 0), INDEX);
        Due.is("4: latest fault", x.told(7), 3);
        Due.is("4: no fault in a refusal", x.set(8, 1, 0, 0), UNKNOWN);
        Due.is("4: latest fault stays", x.told(7), 3);
        Due.is("4: unchanged", x.item(0, 1, 0), -56);
    }

    private static void promise5() {
        GlkStreams x = new GlkStreams();
        x.row(0, 1, 1);
        x.set(0, 1, 0, 255);
        x.row(1, 2, 1);
        x.set(1, 2, 0, -7);
        x.row(2, 3, 1);
        Due.is("5: a byte has a sign", x.item(0, 1, 0), -1);
        Due.is("5: an int", x.item(1, 2, 0), -7);
        Due.is("5: row 8", x.item(8, 7, 0), refused(UNKNOWN));
        Due.is("5: row -1", x.item(-1, 1, 0), Long.MIN_VALUE + 2);
        Due.is("5: sort 0", x.item(0, 0, 0), refused(OUTSIDE));
        Due.is("5: sort 3", x.item(2, 3, 0), refused(OUTSIDE));
        Due.is("5: cast before index", x.item(0, 2, 5), refused(CAST));
        Due.is("5: of references", x.item(2, 1, 0), refused(CAST));
        Due.is("5: nothing before index", x.item(5, 2, 5), refused(NULL));
        Due.is("5: item 1", x.item(0, 1, 1), refused(INDEX));
        Due.is("5: item -1", x.item(0, 1, -1), refused(INDEX));
        Due.is("5: latest fault", x.told(7), 3);
        Due.is("5: least item", x.item(1, 2, MIN), refused(INDEX));
    }

    /** References 0 (of a name) and 1 (temporary). */
    private static GlkStreams withReferences() {
        GlkStreams x = new GlkStreams();
        x.name('a');
        Due.is("file(0)", x.file(0), 0);
        Due.is("temporary(0)", x.temporary(0), 1);
        return x;
    }

    private static void promise6() {
        GlkStreams x = withReferences();
        x.row(0, 3, 2);
        x.row(1, 4, 2);
        x.row(2, 2, 2);
        Due.is("6: a named one", x.hold(0, 0, 0), 1);
        Due.is("6: a temporary one", x.hold(0, 1, 1), 1);
        Due.is("6: held", x.held(0, 0), 0);
        Due.is("6: held", x.held(0, 1), 1);
        Due.is("6: temporary among such", x.hold(1, 1, 1), 1);
        Due.is("6: named among temporary", x.hold(1, 1, 0), STORE);
        Due.is("6: fault", x.told(7), 5);
        Due.is("6: unchanged", x.held(1, 1), 1);
        Due.is("6: nothing among temporary", x.hold(1, 1, -1), 1);
        Due.is("6: nothing there", x.held(1, 1), NULL);
        Due.is("6: nothing", x.hold(0, 0, -1), 1);
        Due.is("6: nothing there", x.held(0, 0), NULL);
        Due.is("6: no reference 2", x.hold(0, 0, 2), UNKNOWN);
        Due.is("6: no reference -2", x.hold(0, 0, -2), UNKNOWN);
        Due.is("6: unknown before fault", x.hold(5, 9, 2), UNKNOWN);
        Due.is("6: row 8", x.hold(8, 0, 0), UNKNOWN);
        Due.is("6: row -1", x.hold(-1, 0, -1), UNKNOWN);
        Due.is("6: ints", x.hold(2, 5, 0), CAST);
        Due.is("6: nothing in the row", x.hold(3, 5, 0), NULL);
        Due.is("6: index before store", x.hold(1, 2, 0), INDEX);
        Due.is("6: index -1", x.hold(0, -1, 0), INDEX);
    }

    private static void promise7() {
        GlkStreams x = withReferences();
        x.row(0, 3, 1);
        x.row(1, 4, 1);
        x.row(2, 1, 1);
        x.hold(1, 0, 1);
        Due.is("7: held", x.held(1, 0), 1);
        Due.is("7: nothing there", x.held(0, 0), NULL);
        Due.is("7: fault", x.told(7), 1);
        Due.is("7: bytes", x.held(2, 4), CAST);
        Due.is("7: nothing in the row", x.held(3, 4), NULL);
        Due.is("7: item 1", x.held(0, 1), INDEX);
        Due.is("7: item -1", x.held(0, -1), INDEX);
        Due.is("7: row 8", x.held(8, 0), UNKNOWN);
        Due.is("7: row -1", x.held(-1, 0), UNKNOWN);
    }

    private static GlkStreams withNumbers() {
        GlkStreams x = new GlkStreams();
        x.row(0, 2, 5);
        for (int k = 0; k < 5; k++) {
            x.set(0, 2, k, k + 1);
        }
        return x;
    }

    private static long[] ints(GlkStreams x, int r, int n) {
        long[] all = new long[n];
        for (int k = 0; k < n; k++) {
            all[k] = x.item(r, 2, k);
        }
        return all;
    }

    private static void promise8() {
        GlkStreams x = withNumbers();
        Due.is("8: up", x.copy(0, 0, 0, 1, 4), 1);
        Due.are("8: up", ints(x, 0, 5), 1, 1, 2, 3, 4);
        x = withNumbers();
        x.lend(1, 0);
        Due.is("8: down", x.copy(0, 2, 1, 0, 3), 1);
        Due.are("8: down", ints(x, 0, 5), 3, 4, 5, 4, 5);
        x = withNumbers();
        x.row(1, 2, 3);
        Due.is("8: to another", x.copy(0, 3, 1, 1, 2), 1);
        Due.are("8: to another", ints(x, 1, 3), 0, 4, 5);
        Due.are("8: source stays", ints(x, 0, 5), 1, 2, 3, 4, 5);
        Due.is("8: none at the ends", x.copy(0, 5, 1, 3, 0), 1);
        Due.is("8: at beyond", x.copy(0, 6, 1, 0, 0), INDEX);
        Due.is("8: to beyond", x.copy(0, 0, 1, 4, 0), INDEX);
        Due.is("8: source too short", x.copy(0, 3, 1, 0, 3), INDEX);
        Due.is("8: target too short", x.copy(0, 0, 1, 1, 3), INDEX);
        Due.is("8: at -1", x.copy(0, -1, 1, 0, 1), INDEX);
        Due.is("8: to -1", x.copy(0, 0, 1, -1, 1), INDEX);
        Due.is("8: n -1", x.copy(0, 1, 1, 1, -1), INDEX);
        Due.is("8: greatest n", x.copy(0, 1, 1, 1, MAX), INDEX);
        Due.is("8: greatest at", x.copy(0, MAX, 1, 0, MAX), INDEX);
        Due.is("8: fault", x.told(7), 3);
        Due.are("8: unchanged", ints(x, 1, 3), 0, 4, 5);
    }

    private static void promise8Kinds() {
        GlkStreams x = withNumbers();
        x.row(1, 1, 5);
        x.row(2, 3, 5);
        x.row(3, 4, 5);
        Due.is("8: ints to bytes", x.copy(0, 0, 1, 0, 1), STORE);
        Due.is("8: bytes to ints", x.copy(1, 0, 0, 0, 0), STORE);
        Due.is("8: ints to references", x.copy(0, 0, 2, 0, 1), STORE);
        Due.is("8: temporary ones to bytes", x.copy(3, 0, 1, 0, 1), STORE);
        Due.is("8: kinds before index", x.copy(0, -1, 1, 0, 99), STORE);
        Due.is("8: nothing before kinds", x.copy(4, -1, 1, 0, 1), NULL);
        Due.is("8: into nothing", x.copy(0, 0, 4, 9, 1), NULL);
        Due.is("8: row 8", x.copy(8, 0, 4, 0, 1), UNKNOWN);
        Due.is("8: into row 8", x.copy(4, 0, 8, 0, 1), UNKNOWN);
        Due.is("8: row -1", x.copy(-1, 0, 0, 0, 1), UNKNOWN);
        Due.is("8: into row -1", x.copy(0, 0, -1, 0, 1), UNKNOWN);
        x.set(1, 1, 0, -3);
        Due.is("8: bytes", x.copy(1, 0, 1, 4, 1), 1);
        Due.is("8: bytes", x.item(1, 1, 4), -3);
    }

    private static void promise8References() {
        GlkStreams x = withReferences();
        x.row(0, 3, 4);
        x.row(1, 4, 4);
        x.hold(0, 0, 1);
        x.hold(0, 2, 0);
        x.hold(0, 3, 1);
        x.hold(1, 1, 1);
        x.hold(1, 3, 1);
        Due.is("8: a named one into temporary ones", x.copy(0, 0, 1, 0, 4), STORE);
        Due.is("8: fault", x.told(7), 5);
        Due.is("8: the one before has gone", x.held(1, 0), 1);
        Due.is("8: nothing before has gone", x.held(1, 1), NULL);
        Due.is("8: not it", x.held(1, 2), NULL);
        Due.is("8: the one behind stays", x.held(1, 3), 1);
        Due.is("8: index before an item's store", x.copy(0, 2, 1, 0, 3), INDEX);
        Due.is("8: none go", x.copy(0, 2, 1, 0, 0), 1);
        Due.is("8: temporary into references", x.copy(1, 0, 0, 1, 3), 1);
        Due.is("8: as they were", x.held(0, 1), 1);
        Due.is("8: as they were", x.held(0, 2), NULL);
        x.row(2, 3, 1);
        x.hold(2, 0, 0);
        Due.is("8: references among themselves", x.copy(2, 0, 0, 0, 1), 1);
        Due.is("8: a named one", x.held(0, 0), 0);
        x.row(3, 4, 3);
        x.row(4, 4, 3);
        for (int k = 0; k < 3; k++) {
            x.hold(3, k, 1);
        }
        Due.is("8: temporary among themselves", x.copy(3, 0, 4, 0, 2), 1);
        Due.is("8: gone", x.held(4, 1), 1);
        Due.is("8: no more than that", x.held(4, 2), NULL);
        Due.is("8: all of them", x.copy(3, 0, 4, 0, 3), 1);
        Due.is("8: gone", x.held(4, 2), 1);
    }
}
