/** Promises 9 to 22: streams. */
public final class StreamsTest {
    private static final int NONE = -1, UNKNOWN = -2, OUTSIDE = -3, STATE = -4, FULL = -5;
    private static final int NULL = -11, CAST = -12, INDEX = -13;
    private static final int WRITE = 1, READ = 2, BOTH = 3, APPEND = 5;
    private static final int MIN = Integer.MIN_VALUE, MAX = Integer.MAX_VALUE;
    private static final int LAST_SIGN = 1114111;

    public static void main(String[] args) {
        promise9();
        promise10();
        promise11();
        promise11Ways();
        promise11Full();
        promise12();
        promise13();
        promise14();
        promise14Memory();
        promise14File();
        promise15();
        promise15Numbers();
        promise16();
        promise17();
        promise18();
        promise19();
        promise20();
        promise20Refusals();
        promise21();
        promise22();
        Due.end();
    }

    /** Reference 0, of a name. */
    private static GlkStreams withReference() {
        GlkStreams x = new GlkStreams();
        x.name('f');
        Due.is("file(0)", x.file(0), 0);
        return x;
    }

    private static GlkStreams withFile(int... bytes) {
        GlkStreams x = withReference();
        int s = x.open(0, WRITE, false);
        for (int b : bytes) {
            x.put(s, b);
        }
        x.close(s);
        return x;
    }

    private static long[] about(GlkStreams x, int stream) {
        long[] all = new long[8];
        for (int what = 0; what < 8; what++) {
            all[what] = x.about(stream, what);
        }
        return all;
    }

    private static void promise9() {
        GlkStreams x = new GlkStreams();
        for (int i = 1; i <= 8; i++) {
            Due.is("9: pane()", x.pane(), i);
        }
        Due.is("9: the 9th", x.pane(), FULL);
        Due.is("9: 8 are open", x.told(0), 8);
        Due.is("9: close(3)", x.close(3), 0);
        Due.is("9: numbers are never given again", x.pane(), 9);
        Due.are("9: of a pane", about(x, 9), 0, 0, 0, 0, 0, 1, 1, 0);
    }

    private static void promise10() {
        GlkStreams x = new GlkStreams();
        x.row(0, 1, 3);
        Due.is("10: memory", x.memory(0, 3, WRITE, false), 1);
        Due.is("10: of no items", x.memory(0, 0, READ, true), 2);
        Due.is("10: without an array", x.memory(7, 40, BOTH, true), 3);
        Due.is("10: row 8", x.memory(8, 99, 9, true), UNKNOWN);
        Due.is("10: row -1", x.memory(-1, 1, 1, true), UNKNOWN);
        Due.is("10: append", x.memory(0, 3, APPEND, false), OUTSIDE);
        Due.is("10: mode 0", x.memory(0, 3, 0, false), OUTSIDE);
        Due.is("10: mode 4", x.memory(0, 3, 4, false), OUTSIDE);
        Due.is("10: -1 items", x.memory(0, -1, 1, false), OUTSIDE);
        Due.is("10: 41 items", x.memory(0, 41, 1, false), OUTSIDE);
        Due.are("10: of memory", about(x, 1), 1, 0, 3, 0, 0, 1, 0, 0);
        Due.are("10: of memory", about(x, 2), 1, 0, 0, 0, 0, 2, 1, 0);
        Due.are("10: of memory", about(x, 3), 1, 0, 40, 0, 0, 3, 1, 0);
        for (int i = 4; i <= 8; i++) {
            x.memory(0, 3, BOTH, false);
        }
        Due.is("10: the 9th", x.memory(0, 3, 1, false), FULL);
        Due.is("10: outside before full", x.memory(0, 3, 7, false), OUTSIDE);
        x.row(0, 1, 3);
        x.put(1, 9);
        Due.is("10: it keeps its array", x.item(0, 1, 0), 0);
    }

    private static void promise11() {
        GlkStreams x = withReference();
        Due.is("11: no reference 1", x.open(1, 9, false), UNKNOWN);
        Due.is("11: no reference -1", x.open(-1, 1, false), UNKNOWN);
        Due.is("11: mode 0", x.open(0, 0, false), OUTSIDE);
        Due.is("11: mode 4", x.open(0, 4, false), OUTSIDE);
        Due.is("11: mode 6", x.open(0, 6, false), OUTSIDE);
        Due.is("11: it is not there", x.open(0, READ, false), STATE);
        Due.is("11: both makes it", x.open(0, BOTH, false), 1);
        Due.is("11: it is there", x.exists(0), 0);
        Due.is("11: one file", x.told(2), 1);
        x.close(1);
        Due.is("11: drop", x.drop(0), 1);
        Due.is("11: append makes it", x.open(0, APPEND, true), 2);
        Due.is("11: it is there", x.exists(0), 0);
        Due.are("11: of a file", about(x, 2), 2, 0, 0, 0, 0, 5, 1, 0);
        x.close(2);
        x.drop(0);
        Due.is("11: write makes it", x.open(0, WRITE, false), 3);
        Due.is("11: it is there", x.exists(0), 0);

        x = withFile('a', 'b', 'c', 'd', 'e');
        x.open(0, BOTH, false);
        Due.are("11: both begins at 0", about(x, 2), 2, 0, 5, 0, 0, 3, 0, 0);
        x.close(2);
        x.open(0, BOTH, true);
        Due.are("11: one whole sign", about(x, 3), 2, 0, 1, 0, 0, 3, 1, 0);
        Due.is("11: the rest stays", x.exists(0), 5);
        x.close(3);
        x.open(0, READ, true);
        Due.is("11: the rest stays", x.exists(0), 5);
        x.close(4);
        x.open(0, APPEND, false);
        Due.are("11: append begins at the end", about(x, 5), 2, 5, 5, 0, 0, 5, 0, 0);
        x.close(5);
        x.open(0, APPEND, true);
        Due.are("11: of whole signs", about(x, 6), 2, 1, 1, 0, 0, 5, 1, 0);
        Due.is("11: the rest goes", x.exists(0), 4);
        x.close(6);
        x.open(0, WRITE, false);
        Due.is("11: write leaves nothing", x.exists(0), 0);
        x.close(7);
        Due.is("11: one file", x.told(2), 1);
    }

    private static void promise11Ways() {
        int[] modes = {WRITE, READ, BOTH, APPEND};
        for (int first : modes) {
            for (int second : modes) {
                GlkStreams x = withFile('a');
                Due.is("11: open first", x.open(0, first, false), 2);
                long due = first == READ && second == READ ? 3 : STATE;
                Due.is("11: mode " + second + " on " + first, x.open(0, second, false), due);
                x.close(2);
                Due.is("11: free again", x.open(0, BOTH, false), due == 3 ? STATE : 3);
            }
        }
        GlkStreams x = withFile('a');
        x.name('f');
        x.file(0);
        x.open(0, WRITE, false);
        Due.is("11: by another reference", x.open(1, READ, false), STATE);
        x.name('f');
        x.file(1);
        Due.is("11: another use, another file", x.open(2, WRITE, false), 3);
    }

    private static void promise11Full() {
        GlkStreams x = new GlkStreams();
        for (int i = 0; i < 7; i++) {
            x.temporary(0);
            if (i < 6) {
                Due.is("11: file " + i, x.open(i, WRITE, false), i + 1);
                x.close(i + 1);
            }
        }
        Due.is("11: 6 files", x.told(2), 6);
        Due.is("11: the 7th, write", x.open(6, WRITE, false), FULL);
        Due.is("11: the 7th, both", x.open(6, BOTH, false), FULL);
        Due.is("11: the 7th, append", x.open(6, APPEND, false), FULL);
        Due.is("11: the 7th, read", x.open(6, READ, false), STATE);
        Due.is("11: it is not there", x.exists(6), NONE);
        Due.is("11: one of the six", x.open(5, WRITE, false), 7);
        x.drop(0);
        Due.is("11: in place of one", x.open(6, WRITE, false), 8);
        for (int i = 0; i < 6; i++) {
            x.pane();
        }
        Due.is("11: 8 streams", x.open(1, WRITE, false), FULL);
        Due.is("11: state before full", x.open(5, WRITE, false), STATE);
        Due.is("11: 8 streams, none to make", x.open(0, WRITE, false), FULL);
        Due.is("11: it is not made", x.exists(0), NONE);
        Due.is("11: outside before full", x.open(1, 0, false), OUTSIDE);
    }

    private static void promise12() {
        GlkStreams x = new GlkStreams();
        x.row(0, 2, 3);
        x.set(0, 2, 0, 255);
        x.set(0, 2, 1, 256);
        x.set(0, 2, 2, LAST_SIGN);
        Due.is("12: given nothing", x.resource(0, true), UNKNOWN);
        x.give(0, 0);
        Due.is("12: wide", x.resource(0, true), 1);
        Due.are("12: of a resource", about(x, 1), 3, 0, 3, 0, 0, 2, 1, 0);
        Due.is("12: not wide", x.resource(0, false), 2);
        Due.are("12: of a resource", about(x, 2), 3, 0, 3, 0, 0, 2, 0, 0);
        Due.are("12: wide", new long[] {x.get(1), x.get(1), x.get(1), x.get(1)}, 255, 256, LAST_SIGN, NONE);
        Due.are("12: not wide", new long[] {x.get(2), x.get(2), x.get(2), x.get(2)}, 255, 63, 63, NONE);
        Due.is("12: number -1", x.resource(-1, true), UNKNOWN);
        Due.is("12: number 4", x.resource(4, true), UNKNOWN);
        for (int i = 3; i <= 8; i++) {
            x.resource(0, true);
        }
        Due.is("12: the 9th", x.resource(0, true), FULL);
        Due.is("12: unknown before full", x.resource(1, true), UNKNOWN);
    }

    private static void promise13() {
        GlkStreams x = new GlkStreams();
        x.row(0, 1, 2);
        x.set(0, 1, 0, -1);
        Due.is("13: bytes", x.give(3, 0), 2);
        x.set(0, 1, 0, 5);
        int s = x.resource(3, true);
        Due.is("13: as they were", x.get(s), 255);
        x.row(1, 2, 4);
        x.set(1, 2, 0, LAST_SIGN);
        x.set(1, 2, 1, LAST_SIGN + 1);
        x.set(1, 2, 2, (1 << 21) + 7);
        x.set(1, 2, 3, -1);
        Due.is("13: ints", x.give(3, 1), 4);
        Due.is("13: an open one keeps its own", x.get(s), 0);
        Due.is("13: to its end", x.get(s), NONE);
        int t = x.resource(3, true);
        Due.are("13: as got", new long[] {x.get(t), x.get(t), x.get(t), x.get(t), x.get(t)},
                LAST_SIGN, 63, 7, 63, NONE);
        x.row(2, 3, 1);
        x.row(3, 4, 1);
        Due.is("13: references", x.give(3, 2), CAST);
        Due.is("13: temporary ones", x.give(3, 3), CAST);
        Due.is("13: fault", x.told(7), 2);
        Due.is("13: nothing", x.give(3, 4), NULL);
        Due.is("13: fault", x.told(7), 1);
        Due.is("13: number 4", x.give(4, 4), UNKNOWN);
        Due.is("13: number -1", x.give(-1, 0), UNKNOWN);
        Due.is("13: row 8", x.give(0, 8), UNKNOWN);
        Due.is("13: row -1", x.give(0, -1), UNKNOWN);
        int u = x.resource(3, true);
        Due.is("13: refusals change nothing", x.about(u, 2), 4);
        Due.is("13: nor other numbers", x.resource(2, true), UNKNOWN);
        x.row(5, 1, 0);
        Due.is("13: no items", x.give(1, 5), 0);
        Due.is("13: given, though of none", x.get(x.resource(1, false)), NONE);
    }

    private static void promise14() {
        GlkStreams x = new GlkStreams();
        x.pane();
        Due.is("14: no stream 0", x.put(0, 65), UNKNOWN);
        Due.is("14: no stream 2", x.put(2, -1), UNKNOWN);
        Due.is("14: no stream -1", x.put(-1, 65), UNKNOWN);
        Due.is("14: sign 0", x.put(1, 0), 1);
        Due.is("14: last sign", x.put(1, LAST_SIGN), 1);
        Due.is("14: beyond", x.put(1, LAST_SIGN + 1), OUTSIDE);
        Due.is("14: below", x.put(1, -1), OUTSIDE);
        Due.is("14: least", x.put(1, MIN), OUTSIDE);
        Due.is("14: counted", x.about(1, 3), 2);
        Due.is("14: a pane shows it whole", x.shown(1, 0), LAST_SIGN);
        x.row(0, 1, 2);
        x.memory(0, 2, READ, false);
        Due.is("14: read", x.put(2, 65), STATE);
        Due.is("14: outside before state", x.put(2, -1), OUTSIDE);
        x.give(0, 0);
        x.resource(0, true);
        Due.is("14: a resource", x.put(3, 65), STATE);
        Due.is("14: state before fault", x.put(x.memory(5, 2, READ, true), 1), STATE);
    }

    private static void promise14Memory() {
        GlkStreams x = new GlkStreams();
        x.row(0, 1, 3);
        x.memory(0, 2, BOTH, false);
        Due.is("14: a byte", x.put(1, 255), 1);
        Due.is("14: as a byte", x.item(0, 1, 0), -1);
        Due.is("14: 256", x.put(1, 256), 1);
        Due.is("14: 63 in its place", x.item(0, 1, 1), 63);
        Due.is("14: at the end", x.put(1, 7), 1);
        Due.is("14: dropped", x.item(0, 1, 2), 0);
        Due.are("14: but counted", about(x, 1), 1, 2, 2, 3, 0, 3, 0, 0);
        x.row(1, 2, 1);
        x.memory(1, 2, WRITE, true);
        Due.is("14: wide", x.put(2, 70000), 1);
        Due.is("14: whole", x.item(1, 2, 0), 70000);
        Due.is("14: beyond the array", x.put(2, 5), INDEX);
        Due.is("14: fault", x.told(7), 3);
        Due.are("14: nothing changes", about(x, 2), 1, 1, 2, 1, 0, 1, 1, 0);
        x.memory(0, 1, WRITE, true);
        Due.is("14: wide into bytes", x.put(3, 5), CAST);
        x.memory(1, 1, WRITE, false);
        Due.is("14: bytes into ints", x.put(4, 5), CAST);
        x.row(2, 3, 1);
        x.memory(2, 1, WRITE, true);
        Due.is("14: into references", x.put(5, 5), CAST);
        Due.is("14: fault", x.told(7), 2);
        x.memory(7, 1, WRITE, true);
        Due.is("14: without an array", x.put(6, 5), NULL);
        Due.is("14: fault", x.told(7), 1);
        Due.are("14: nothing changes", about(x, 6), 1, 0, 1, 0, 0, 1, 1, 0);
        x.memory(7, 0, WRITE, true);
        Due.is("14: at the end without an array", x.put(7, 5), 1);
        Due.is("14: counted", x.about(7, 3), 1);
        x.seek(1, 0, 0);
        x.put(1, 44);
        Due.is("14: at its place", x.item(0, 1, 0), 44);
    }

    private static void promise14File() {
        GlkStreams x = withFile('a', 300, 255);
        Due.is("14: three bytes", x.exists(0), 3);
        x.open(0, BOTH, false);
        Due.are("14: read back", new long[] {x.get(2), x.get(2), x.get(2)}, 'a', 63, 255);
        x.seek(2, 1, 0);
        Due.is("14: in place of what is there", x.put(2, 'x'), 1);
        Due.is("14: as many bytes", x.exists(0), 3);
        Due.is("14: the one behind stays", x.get(2), 255);
        Due.is("14: behind the end", x.put(2, 'y'), 1);
        Due.is("14: one more", x.exists(0), 4);
        for (int i = 4; i < 60; i++) {
            Due.is("14: byte " + i, x.put(2, 'z'), 1);
        }
        Due.is("14: the 61st byte", x.put(2, 'z'), FULL);
        Due.are("14: nothing changes", about(x, 2), 2, 60, 60, 58, 4, 3, 0, 0);
        x.seek(2, -1, 2);
        Due.is("14: in place of the last", x.put(2, '!'), 1);
        x.seek(2, -1, 2);
        Due.is("14: the last", x.get(2), '!');
        x.close(2);

        x = withFile(1, 2, 3, 4, 5, 6);
        x.open(0, BOTH, true);
        x.seek(2, 9, 2);
        Due.is("14: over the bytes of no whole sign", x.put(2, 0x10FFFF), 1);
        Due.is("14: eight bytes", x.exists(0), 8);
        Due.is("14: two signs", x.about(2, 2), 2);
        x.close(2);
        x.open(0, READ, false);
        for (int due : new int[] {1, 2, 3, 4, 0, 0x10, 0xFF, 0xFF, NONE}) {
            Due.is("14: the highest first", x.get(3), due);
        }
        x.close(3);
        x.open(0, WRITE, true);
        for (int i = 0; i < 15; i++) {
            Due.is("14: wide sign " + i, x.put(4, 1000), 1);
        }
        Due.is("14: the 16th", x.put(4, 1000), FULL);
        Due.is("14: 60 bytes", x.exists(0), 60);
        x.close(4);
        x.open(0, READ, true);
        x.seek(5, -1, 2);
        Due.is("14: the last", x.get(5), 1000);
        x.close(5);
        x.open(0, APPEND, false);
        Due.is("14: append when full", x.put(6, 9), FULL);
        x.seek(6, 0, 0);
        Due.is("14: append elsewhere", x.put(6, 9), 1);
        x.close(6);
        x.open(0, READ, false);
        Due.is("14: it is there", x.get(7), 9);
    }

    private static void promise15() {
        GlkStreams x = withReference();
        x.row(0, 1, 2);
        x.set(0, 1, 0, -2);
        Due.is("15: no stream 1", x.get(1), UNKNOWN);
        x.memory(0, 3, READ, false);
        Due.is("15: a byte", x.get(1), 254);
        Due.is("15: a byte", x.get(1), 0);
        Due.is("15: beyond the array", x.get(1), INDEX);
        Due.is("15: fault", x.told(7), 3);
        Due.are("15: nothing changes", about(x, 1), 1, 2, 3, 0, 2, 2, 0, 0);
        x.seek(1, 0, 2);
        Due.is("15: at its end", x.get(1), NONE);
        Due.are("15: none is no sign", about(x, 1), 1, 3, 3, 0, 2, 2, 0, 0);
        x.memory(0, 3, WRITE, false);
        Due.is("15: write", x.get(2), STATE);
        x.memory(7, 3, WRITE, false);
        Due.is("15: state before fault", x.get(3), STATE);
        x.memory(7, 3, BOTH, true);
        Due.is("15: without an array", x.get(4), NULL);
        x.memory(0, 3, BOTH, true);
        Due.is("15: wide out of bytes", x.get(5), CAST);
        Due.is("15: fault", x.told(7), 2);
        Due.is("15: a pane", x.get(x.pane()), STATE);
        x.open(0, APPEND, false);
        Due.is("15: append", x.get(7), STATE);
        x.close(7);
        x.open(0, WRITE, false);
        Due.is("15: write", x.get(8), STATE);
        x.close(1);
        x.memory(7, 0, READ, true);
        Due.is("15: at the end without an array", x.get(9), NONE);
    }

    private static void promise15Numbers() {
        GlkStreams x = new GlkStreams();
        int[] numbers = {LAST_SIGN, LAST_SIGN + 1, 0x1FFFFF, 0x200000, 0x200041, MIN, -1};
        int[] due = {LAST_SIGN, 63, 63, 0, 0x41, 0, 63};
        x.row(0, 2, numbers.length);
        x.memory(0, numbers.length, READ, true);
        for (int i = 0; i < numbers.length; i++) {
            x.set(0, 2, i, numbers[i]);
            Due.is("15: of an int " + numbers[i], x.get(1), due[i]);
        }
        for (int i = 0; i < numbers.length; i++) {
            int n = numbers[i];
            x = withFile(n >>> 24, n >>> 16 & 255, n >>> 8 & 255, n & 255, 1);
            x.open(0, READ, true);
            Due.is("15: of a wide file " + n, x.get(2), due[i]);
            Due.is("15: no whole sign", x.get(2), NONE);
        }
        x = new GlkStreams();
        x.row(0, 2, 1);
        x.memory(0, 1, READ, false);
        Due.is("15: bytes out of ints", x.get(1), CAST);
    }

    private static void promise16() {
        GlkStreams x = withFile('a', 'b', 'c', 'd', 'e');
        x.open(0, READ, false);
        Due.is("16: from 0", x.seek(2, 2, 0), 2);
        Due.is("16: got there", x.get(2), 'c');
        Due.is("16: from where it is", x.seek(2, 1, 1), 4);
        Due.is("16: back", x.seek(2, -3, 1), 1);
        Due.is("16: from its end", x.seek(2, -2, 2), 3);
        Due.is("16: its place", x.about(2, 1), 3);
        Due.is("16: beyond", x.seek(2, 6, 0), 5);
        Due.is("16: greatest", x.seek(2, MAX, 1), 5);
        Due.is("16: greatest", x.seek(2, MAX, 2), 5);
        Due.is("16: below", x.seek(2, -1, 0), 0);
        Due.is("16: least", x.seek(2, MIN, 1), 0);
        Due.is("16: least", x.seek(2, MIN, 2), 0);
        Due.is("16: from 3", x.seek(2, 1, 3), OUTSIDE);
        Due.is("16: from -1", x.seek(2, 1, -1), OUTSIDE);
        Due.is("16: no stream 1", x.seek(1, 1, 9), UNKNOWN);
        x.pane();
        Due.is("16: a pane", x.seek(3, 1, 0), STATE);
        Due.is("16: outside before state", x.seek(3, 1, 3), OUTSIDE);
        x.row(0, 2, 2);
        x.memory(0, 7, WRITE, true);
        Due.is("16: memory's end", x.seek(4, 0, 2), 7);
        x.give(0, 0);
        x.resource(0, true);
        Due.is("16: a resource's end", x.seek(5, 9, 0), 2);
        x.close(2);
        x.open(0, READ, true);
        Due.is("16: whole signs", x.seek(6, 9, 0), 1);
    }

    private static void promise17() {
        GlkStreams x = withReference();
        x.pane();
        x.pane();
        x.pane();
        x.echo(1, 3);
        x.echo(2, 3);
        x.put(1, 'a');
        x.put(2, 'b');
        x.current(3);
        Due.is("17: signs put", x.close(3), 2);
        Due.is("17: current no more", x.told(1), 0);
        Due.is("17: an echo no more", x.about(1, 7), 0);
        Due.is("17: of either", x.about(2, 7), 0);
        Due.is("17: two are open", x.told(0), 2);
        Due.is("17: again", x.close(3), UNKNOWN);
        Due.is("17: never opened", x.close(4), UNKNOWN);
        Due.is("17: none", x.close(0), UNKNOWN);
        Due.is("17: signs put go on", x.put(1, 'c'), 1);
        Due.is("17: signs put", x.close(1), 2);
        x.current(2);
        x.open(0, WRITE, false);
        x.close(4);
        Due.is("17: another stays current", x.told(1), 2);
        Due.is("17: the file stays", x.exists(0), 0);
        x.pane();
        x.echo(2, 5);
        x.pane();
        x.close(6);
        Due.is("17: another echo stays", x.about(2, 7), 5);
    }

    private static void promise18() {
        GlkStreams x = withReference();
        x.row(0, 2, 4);
        x.memory(0, 3, BOTH, true);
        x.pane();
        x.open(0, APPEND, false);
        x.give(0, 0);
        x.resource(0, false);
        x.echo(2, 3);
        x.put(2, 'a');
        x.put(2, 'b');
        x.put(1, 'c');
        x.get(1);
        x.get(4);
        Due.are("18: memory", about(x, 1), 1, 2, 3, 1, 1, 3, 1, 0);
        Due.are("18: a pane", about(x, 2), 0, 0, 0, 2, 0, 1, 1, 3);
        Due.are("18: a file", about(x, 3), 2, 2, 2, 2, 0, 5, 0, 0);
        Due.are("18: a resource", about(x, 4), 3, 1, 4, 0, 1, 2, 0, 0);
        Due.is("18: what 8", x.about(1, 8), OUTSIDE);
        Due.is("18: what -1", x.about(1, -1), OUTSIDE);
        Due.is("18: no stream 5", x.about(5, 8), UNKNOWN);
        Due.is("18: no stream 0", x.about(0, 0), UNKNOWN);
    }

    private static void promise19() {
        GlkStreams x = withReference();
        x.pane();
        Due.is("19: nothing yet", x.shown(1, 0), NONE);
        x.put(1, 100);
        x.put(1, 101);
        Due.is("19: the latest first", x.shown(1, 0), 101);
        Due.is("19: the one before", x.shown(1, 1), 100);
        Due.is("19: no more", x.shown(1, 2), NONE);
        Due.is("19: below", x.shown(1, -1), NONE);
        Due.is("19: least", x.shown(1, MIN), NONE);
        for (int c = 102; c < 145; c++) {
            x.put(1, c);
        }
        for (int i = 0; i < 20; i++) {
            Due.is("19: shown " + i, x.shown(1, i), 144 - i);
        }
        Due.is("19: the 21st", x.shown(1, 20), NONE);
        Due.is("19: greatest", x.shown(1, MAX), NONE);
        x.open(0, WRITE, false);
        Due.is("19: a file", x.shown(2, 0), STATE);
        Due.is("19: memory", x.shown(x.memory(0, 1, 1, true), 0), STATE);
        Due.is("19: no stream 9", x.shown(9, 0), UNKNOWN);
    }

    private static void promise20() {
        GlkStreams x = new GlkStreams();
        for (int i = 0; i < 4; i++) {
            x.pane();
        }
        Due.is("20: to itself", x.echo(1, 1), 0);
        Due.is("20: 1 to 2", x.echo(1, 2), 1);
        Due.is("20: 2 to 3", x.echo(2, 3), 1);
        Due.is("20: a ring of three", x.echo(3, 1), 0);
        Due.is("20: no echo of it", x.about(3, 7), 0);
        Due.is("20: a ring of two", x.echo(2, 1), 0);
        Due.is("20: the echo stays", x.about(2, 7), 3);
        Due.is("20: two may have one", x.echo(4, 3), 1);
        x.put(1, 500);
        Due.is("20: shown along", x.shown(2, 0), 500);
        Due.is("20: to the end", x.shown(3, 0), 500);
        Due.is("20: not elsewhere", x.shown(4, 0), NONE);
        Due.is("20: counted along", x.about(3, 3), 1);
        Due.is("20: another echo", x.echo(1, 4), 1);
        Due.is("20: no ring now", x.echo(2, 1), 1);
        Due.is("20: none more", x.echo(2, 0), 1);
        Due.is("20: none more", x.about(2, 7), 0);
        x.put(2, 7);
        Due.is("20: not along", x.shown(1, 0), 500);
        Due.is("20: no stream 9", x.echo(9, 1), UNKNOWN);
        Due.is("20: to no stream 9", x.echo(1, 9), UNKNOWN);
        Due.is("20: to no stream -1", x.echo(1, -1), UNKNOWN);
        Due.is("20: of no stream 0", x.echo(0, 0), UNKNOWN);
        x.row(0, 1, 1);
        x.memory(0, 1, WRITE, false);
        Due.is("20: no pane", x.echo(5, 1), STATE);
        Due.is("20: no pane, to itself", x.echo(5, 5), STATE);
        Due.is("20: no pane, none", x.echo(5, 0), STATE);
        Due.is("20: unknown before state", x.echo(5, 9), UNKNOWN);
        x = new GlkStreams();
        for (int i = 1; i <= 8; i++) {
            x.pane();
            x.echo(i - 1, i);
        }
        Due.is("20: a ring of eight", x.echo(8, 1), 0);
        x.put(1, 5);
        Due.is("20: along eight", x.shown(8, 0), 5);
    }

    private static void promise20Refusals() {
        GlkStreams x = withReference();
        x.row(0, 1, 1);
        x.pane();
        x.pane();
        x.echo(1, 2);
        x.memory(0, 2, WRITE, false);
        x.echo(2, 3);
        Due.is("20: by the rules of that one", x.put(1, 300), 1);
        Due.is("20: it is not wide", x.item(0, 1, 0), 63);
        Due.is("20: the panes are", x.shown(2, 0), 300);
        Due.is("20: a fault there", x.put(1, 301), INDEX);
        Due.is("20: fault", x.told(7), 3);
        Due.is("20: what was put is put", x.shown(1, 0), 301);
        Due.is("20: what was put is put", x.shown(2, 0), 301);
        Due.is("20: counted", x.about(2, 3), 2);
        Due.is("20: not there", x.about(3, 3), 1);
        x.memory(0, 1, READ, false);
        x.echo(2, 4);
        Due.is("20: a refusal is passed over", x.put(1, 65), 1);
        Due.is("20: not put there", x.about(4, 3), 0);
        x.open(0, WRITE, true);
        x.echo(2, 5);
        for (int i = 0; i < 15; i++) {
            x.put(2, 65);
        }
        Due.is("20: a full file is passed over", x.put(1, 66), 1);
        Due.is("20: not put there", x.about(5, 3), 15);
        Due.is("20: put here", x.shown(1, 0), 66);
        Due.is("20: outside puts nothing", x.put(1, -1), OUTSIDE);
        Due.is("20: as it was", x.shown(1, 0), 66);
    }

    private static void promise21() {
        GlkStreams x = new GlkStreams();
        x.pane();
        x.memory(0, 1, READ, false);
        Due.is("21: none at first", x.current(1), 0);
        Due.is("21: told", x.told(1), 1);
        Due.is("21: a read one", x.current(2), 1);
        Due.is("21: no stream 3", x.current(3), UNKNOWN);
        Due.is("21: no stream -1", x.current(-1), UNKNOWN);
        Due.is("21: unchanged", x.told(1), 2);
        Due.is("21: none", x.current(0), 2);
        Due.is("21: none", x.current(0), 0);
        Due.is("21: told", x.told(1), 0);
    }

    private static void promise22() {
        GlkStreams x = withReference();
        x.pane();
        x.pane();
        Due.is("22: none", x.say(65), STATE);
        Due.is("22: outside before state", x.say(-1), OUTSIDE);
        x.current(2);
        Due.is("22: say", x.say(66), 1);
        Due.is("22: shown there", x.shown(2, 0), 66);
        Due.is("22: not elsewhere", x.shown(1, 0), NONE);
        Due.is("22: beyond", x.say(LAST_SIGN + 1), OUTSIDE);
        x.echo(2, 1);
        x.say(67);
        Due.is("22: echoed", x.shown(1, 0), 67);
        x.memory(0, 1, READ, false);
        x.current(3);
        Due.is("22: read", x.say(65), STATE);
        x.memory(0, 1, WRITE, false);
        x.current(4);
        Due.is("22: a fault", x.say(65), NULL);
        x.open(0, WRITE, false);
        x.current(5);
        for (int i = 0; i < 60; i++) {
            x.say(65);
        }
        Due.is("22: full", x.say(65), FULL);
        x.close(5);
        Due.is("22: none", x.say(65), STATE);
    }
}
