import java.util.Random;

/** Long runs of calls with arguments of every sort: none throws, and the document's limits hold. */
public final class NeverThrowsTest {
    private static final int RUNS = 4000;
    /** With what limits() asks, a run stays below the 512 calls of an object. */
    private static final int CALLS = 440;
    private static final int[] EXTREMES = {Integer.MIN_VALUE, Integer.MAX_VALUE, -1, -2, 40, 41, 60, 1114111, 1114112};

    /** The highest number that a stream of the run has had. */
    private static int opened;

    public static void main(String[] args) {
        Random random = new Random(20261116L);
        for (int run = 0; run < RUNS; run++) {
            GlkStreams x = new GlkStreams();
            opened = 0;
            int method = -1;
            try {
                for (int call = 0; call < CALLS; call++) {
                    method = random.nextInt(37);
                    callOne(x, method, random);
                }
            } catch (RuntimeException e) {
                Due.is("run " + run + ", method " + method + " threw " + e, 1, 0);
            }
            limits(x);
        }
        Due.end();
    }

    private static int number(Random random, int below) {
        return random.nextInt(20) == 0 ? EXTREMES[random.nextInt(EXTREMES.length)] : random.nextInt(below);
    }

    private static void callOne(GlkStreams x, int method, Random random) {
        int small = number(random, 5);
        int other = number(random, 5);
        int middling = number(random, 45);
        int stream = number(random, 2) == 0 ? number(random, 12) : latestStream(random);
        int reference = number(random, 20);
        boolean wide = random.nextBoolean();
        switch (method) {
            case 0: x.row(number(random, 8), small, middling); break;
            case 1: x.lend(number(random, 8), number(random, 8)); break;
            case 2: x.set(number(random, 8), small, middling, random.nextInt()); break;
            case 3: x.item(number(random, 8), small, middling); break;
            case 4: x.hold(number(random, 8), middling, reference); break;
            case 5: x.held(number(random, 8), middling); break;
            case 6:
                x.copy(number(random, 8), number(random, 20), number(random, 8), number(random, 20), middling);
                break;
            case 7: opened(x.pane()); break;
            case 8: opened(x.memory(number(random, 8), middling, small, wide)); break;
            case 9: opened(x.open(reference, number(random, 6), wide)); break;
            case 10: opened(x.resource(small, wide)); break;
            case 11: x.give(small, number(random, 8)); break;
            case 12: case 13: case 14: x.put(stream, number(random, 1200)); break;
            case 15: case 16: x.get(stream); break;
            case 17: x.seek(stream, number(random, 60) - 30, small); break;
            case 18: x.close(stream); break;
            case 19: x.about(stream, number(random, 9)); break;
            case 20: x.shown(stream, number(random, 22)); break;
            case 21: x.echo(stream, latestStream(random)); break;
            case 22: x.current(stream); break;
            case 23: x.say(number(random, 400)); break;
            case 24: x.name(number(random, 130)); break;
            case 25: x.file(small); break;
            case 26: x.temporary(other); break;
            case 27: x.exists(reference); break;
            case 28: x.drop(reference); break;
            case 29: x.upper(number(random, 1200)); break;
            case 30: x.lower(number(random, 1200)); break;
            case 31: x.date(random.nextLong() >> random.nextInt(64), number(random, 8)); break;
            case 32: x.timer(number(random, 20)); break;
            case 33: x.sound(number(random, 2), number(random, 20)); break;
            case 34: x.tick(number(random, 30)); x.event(); break;
            case 35: x.told(number(random, 9)); break;
            default: shareOf(x);
        }
    }

    private static void opened(int answer) {
        opened = Math.max(opened, answer);
    }

    /** One of the latest streams, which may be closed. */
    private static int latestStream(Random random) {
        return opened - random.nextInt(10);
    }

    private static void shareOf(GlkStreams x) {
        try {
            x.share();
        } catch (ArithmeticException e) {
            Due.is("share() threw for itself", e.getMessage().equals("/ by zero") ? 1 : 0, 0);
        }
    }

    private static void limits(GlkStreams x) {
        Due.is("at most 8 streams", x.told(0) <= 8 ? 1 : 0, 1);
        Due.is("at most 6 files", x.told(2) <= 6 ? 1 : 0, 1);
        Due.is("at most 20 references", x.told(3) <= 20 ? 1 : 0, 1);
        Due.is("at most 8 events", x.tick(0) <= 8 ? 1 : 0, 1);
        int files = 0;
        for (int reference = 0; reference < 20; reference++) {
            Due.is("at most 60 bytes", x.exists(reference) <= 60 ? 1 : 0, 1);
            files += x.exists(reference) >= 0 ? 1 : 0;
        }
        Due.is("files that are there have a reference", files >= x.told(2) ? 1 : 0, 1);
    }
}
