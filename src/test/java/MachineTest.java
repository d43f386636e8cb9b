import java.util.Random;

/**
 * Rows, and memory over them, beside arrays of Java's own: the FAULTS are "by the machine's words", so that the machine
 * is asked what it has against the same call. The promises' order of FAULTS is the machine's, too.
 */
public final class MachineTest {
    private static final int RUNS = 3000;
    /** With a told(7) behind each, and a look at all items at the end, a run stays below an object's 512 calls. */
    private static final int CALLS = 200;
    private static final int STREAM = 1;
    private static final int END = 5;

    private static class Reference {
        final int number;

        Reference(int number) {
            this.number = number;
        }
    }

    private static final class Temporary extends Reference {
        Temporary(int number) {
            super(number);
        }
    }

    private final GlkStreams asked = new GlkStreams();
    private final Object[] rows = new Object[8];
    private final Reference[] references = new Reference[6];
    private final Random random;
    private final int[] met = new int[6];
    private Object memory;
    private boolean wide;
    private int place;

    private MachineTest(long seed) {
        random = new Random(seed);
    }

    public static void main(String[] args) {
        int[] met = new int[6];
        for (int run = 0; run < RUNS; run++) {
            MachineTest test = new MachineTest(run);
            test.play(run);
            for (int fault = 0; fault <= 5; fault++) {
                met[fault] += test.met[fault];
            }
        }
        for (int fault = 0; fault <= 5; fault++) {
            Due.is("FAULT " + fault + " was met often", met[fault] > 1000 ? 1 : 0, 1);
        }
        Due.end();
    }

    private void play(int run) {
        for (int i = 0; i < references.length; i++) {
            boolean temporary = random.nextBoolean();
            references[i] = temporary ? new Temporary(i) : new Reference(i);
            asked.name('a');
            Due.is("run " + run + ": reference", temporary ? asked.temporary(0) : asked.file(0), i);
        }
        for (int r = 0; r < 8; r++) {
            oneRow(r, random.nextInt(5), random.nextInt(5));
        }
        wide = random.nextBoolean();
        memory = rows[0];
        asked.memory(0, END, 3, wide);
        int latest = 0;
        for (int call = 0; call < CALLS; call++) {
            String name = "run " + run + ", call " + call;
            int fault = one(name, random.nextInt(12));
            met[fault]++;
            latest = fault == 0 ? latest : fault;
            Due.is(name + ": the latest FAULT", asked.told(7), latest);
        }
        for (int r = 0; r < 8; r++) {
            allItems("run " + run + ", row " + r + " at the end", r);
        }
    }

    private void allItems(String name, int r) {
        int length = rows[r] == null ? 0 : java.lang.reflect.Array.getLength(rows[r]);
        for (int k = 0; k < length; k++) {
            boolean numbers = rows[r] instanceof byte[] || rows[r] instanceof int[];
            compared(name, numbers ? oneItem(r, rows[r] instanceof byte[] ? 1 : 2, k) : oneHeld(r, k));
        }
    }

    private int one(String name, int method) {
        int r = random.nextInt(8);
        int s = random.nextInt(8);
        int k = random.nextInt(6) - 1;
        int at = random.nextInt(6) - 1;
        int n = random.nextInt(6) - 1;
        int v = random.nextInt();
        switch (method) {
            case 0: return compared(name + " row", oneRow(r, 1 + random.nextInt(4), n));
            case 1: return compared(name + " lend", oneLend(r, s));
            case 2: return compared(name + " set", oneSet(r, 1 + random.nextInt(2), k, v));
            case 3: return compared(name + " item", oneItem(r, 1 + random.nextInt(2), k));
            case 4: case 5: return compared(name + " hold", oneHold(r, k, random.nextInt(references.length + 1) - 1));
            case 6: return compared(name + " held", oneHeld(r, k));
            case 7: case 8: case 9: return compared(name + " copy", oneCopy(r, at, s, k, n));
            case 10: return compared(name + " put", onePut(v & 255));
            default: return compared(name + " get", oneGet());
        }
    }

    /** What the class answered, and the machine: its FAULT, or the answer where there is none. */
    private record Both(long answer, int fault, long due) {
    }

    private int compared(String name, Both both) {
        Due.is(name, both.answer(), both.fault() == 0 ? both.due() : -10 - both.fault());
        return both.fault();
    }

    private interface Step {
        long go();
    }

    private static Both asks(long answer, Step step) {
        try {
            return new Both(answer, 0, step.go());
        } catch (NullPointerException e) {
            return new Both(answer, 1, 0);
        } catch (ClassCastException e) {
            return new Both(answer, 2, 0);
        } catch (IndexOutOfBoundsException e) {
            return new Both(answer, 3, 0);
        } catch (NegativeArraySizeException e) {
            return new Both(answer, 4, 0);
        } catch (ArrayStoreException e) {
            return new Both(answer, 5, 0);
        }
    }

    private Both oneRow(int r, int sort, int n) {
        return asks(asked.row(r, sort, n), () -> {
            rows[r] = switch (sort) {
                case 1 -> new byte[n];
                case 2 -> new int[n];
                case 3 -> new Reference[n];
                case 4 -> new Temporary[n];
                default -> null;
            };
            return 1;
        });
    }

    private Both oneLend(int r, int from) {
        return asks(asked.lend(r, from), () -> {
            rows[r] = rows[from];
            return 1;
        });
    }

    private Both oneSet(int r, int sort, int k, int v) {
        return asks(asked.set(r, sort, k, v), () -> {
            if (sort == 1) {
                ((byte[]) rows[r])[k] = (byte) v;
            } else {
                ((int[]) rows[r])[k] = v;
            }
            return 1;
        });
    }

    private Both oneItem(int r, int sort, int k) {
        long answer = asked.item(r, sort, k);
        // Far below every int: a refusal, told as by another call.
        long told = answer < Long.MIN_VALUE + 100 ? Long.MIN_VALUE - answer : answer;
        return asks(told, () -> sort == 1 ? ((byte[]) rows[r])[k] : ((int[]) rows[r])[k]);
    }

    private Both oneHold(int r, int k, int reference) {
        return asks(asked.hold(r, k, reference), () -> {
            ((Reference[]) rows[r])[k] = reference < 0 ? null : references[reference];
            return 1;
        });
    }

    private Both oneHeld(int r, int k) {
        return asks(asked.held(r, k), () -> ((Reference[]) rows[r])[k].number);
    }

    private Both oneCopy(int r, int at, int s, int to, int n) {
        return asks(asked.copy(r, at, s, to, n), () -> {
            System.arraycopy(rows[r], at, rows[s], to, n);
            return 1;
        });
    }

    private Both onePut(int c) {
        return asks(asked.put(STREAM, c), () -> {
            if (place < END) {
                if (wide) {
                    ((int[]) memory)[place] = c;
                } else {
                    ((byte[]) memory)[place] = (byte) c;
                }
                place++;
            }
            return 1;
        });
    }

    private Both oneGet() {
        if (random.nextInt(3) == 0) {
            place = random.nextInt(END + 1);
            asked.seek(STREAM, place, 0);
        }
        return asks(asked.get(STREAM), () -> {
            if (place >= END) {
                return GlkStreams.NONE;
            }
            int number = wide ? ((int[]) memory)[place] & 0x1FFFFF : ((byte[]) memory)[place] & 255;
            place++;
            return Character.isValidCodePoint(number) ? number : 63;
        });
    }
}
