import java.time.LocalDateTime;
import java.time.ZoneOffset;

/** Promises 28 to 36: signs, dates, events, and what is told. */
public final class SignsTest {
    private static final int NONE = -1, OUTSIDE = -3;
    private static final int LAST_SIGN = 1114111;
    private static final int MIN = Integer.MIN_VALUE, MAX = Integer.MAX_VALUE;
    private static final long MOST = 100000000000000L;

    public static void main(String[] args) {
        promises28And29();
        promise30();
        promise30Edges();
        promise31();
        promise32();
        promise33();
        promise34();
        promise35();
        promise36();
        Due.end();
    }

    /** Great sign of each small one, written out as the document lists them. */
    private static int[] greatSigns() {
        int[] great = new int[2000];
        for (int c = 0; c < great.length; c++) {
            great[c] = c;
        }
        for (int c = 'a'; c <= 'z'; c++) {
            great[c] = c - 32;
        }
        for (int c = 224; c <= 254; c++) {
            great[c] = c == 247 ? c : c - 32;
        }
        for (int c = 945; c <= 969; c++) {
            great[c] = c - 32;
        }
        for (int c = 1072; c <= 1103; c++) {
            great[c] = c - 32;
        }
        for (int c = 1104; c <= 1119; c++) {
            great[c] = c - 80;
        }
        for (int c = 257; c <= 303; c += 2) {
            great[c] = c - 1;
        }
        great[255] = 376;
        great[962] = 931;
        return great;
    }

    private static void promises28And29() {
        GlkStreams x = new GlkStreams();
        int[] great = greatSigns();
        int[] small = new int[great.length];
        for (int c = 0; c < small.length; c++) {
            small[c] = c;
        }
        for (int c = 0; c < great.length; c++) {
            if (great[c] != c && c != 962) {
                small[great[c]] = c;
            }
        }
        for (int c = 0; c <= LAST_SIGN; c++) {
            // What an object answers after 512 calls is free.
            x = c % 250 == 0 ? new GlkStreams() : x;
            Due.is("28: upper(" + c + ")", x.upper(c), c < great.length ? great[c] : c);
            Due.is("29: lower(" + c + ")", x.lower(c), c < small.length ? small[c] : c);
        }
        x = new GlkStreams();
        Due.is("29: lower(931)", x.lower(931), 963);
        Due.is("29: lower(930)", x.lower(930), 930);
        Due.is("29: lower(215)", x.lower(215), 215);
        for (int none : new int[] {-1, LAST_SIGN + 1, MIN, MAX, -32, -80}) {
            Due.is("28: upper(" + none + ")", x.upper(none), NONE);
            Due.is("29: lower(" + none + ")", x.lower(none), NONE);
        }
    }

    private static void datesAt(long seconds) {
        GlkStreams x = new GlkStreams();
        LocalDateTime date = LocalDateTime.ofEpochSecond(seconds, 0, ZoneOffset.UTC);
        int year = date.getYear();
        int[] due = {year < 0 ? year - 10 : year, date.getMonthValue(), date.getDayOfMonth(),
            date.getDayOfWeek().getValue() % 7, date.getHour(), date.getMinute(), date.getSecond()};
        for (int what = 0; what < due.length; what++) {
            Due.is("30: date(" + seconds + ", " + what + ")", x.date(seconds, what), due[what]);
        }
    }

    private static void promise30() {
        // Every day of 800 years, at a time that wanders through the day.
        for (long day = -146097; day <= 146097; day++) {
            datesAt(day * 86400 + Math.floorMod(day * 7919, 86400L));
        }
        long[] corners = {0, -1, 1, 59, 60, 3599, 3600, 86399, 86400, -86400, -86401, MOST, -MOST, MOST - 1, 1 - MOST,
            -62167219200L, -62167219201L, -62198755200L, -62198755201L, 951782400L, 4107542400L, Integer.MAX_VALUE};
        for (long seconds : corners) {
            datesAt(seconds);
        }
        for (long seconds = -MOST; seconds <= MOST; seconds += 9999999967L) {
            datesAt(seconds);
        }
    }

    private static void promise30Edges() {
        GlkStreams x = new GlkStreams();
        Due.is("30: what -1", x.date(0, -1), OUTSIDE);
        Due.is("30: what 7", x.date(0, 7), OUTSIDE);
        Due.is("30: beyond", x.date(MOST + 1, 0), OUTSIDE);
        Due.is("30: before", x.date(-MOST - 1, 6), OUTSIDE);
        Due.is("30: greatest", x.date(Long.MAX_VALUE, 0), OUTSIDE);
        Due.is("30: least", x.date(Long.MIN_VALUE, 0), OUTSIDE);
        Due.is("30: the year 0", x.date(-62167219200L, 0), 0);
        Due.is("30: the year before", x.date(-62167219201L, 0), -11);
        Due.is("30: a thursday", x.date(0, 3), 4);
        Due.is("30: a sunday", x.date(3 * 86400, 3), 0);
    }

    private static void promise31() {
        GlkStreams x = new GlkStreams();
        Due.is("31: none before", x.timer(1000), 0);
        Due.is("31: beyond", x.timer(1001), OUTSIDE);
        Due.is("31: below", x.timer(-1), OUTSIDE);
        Due.is("31: what it was", x.timer(5), 1000);
        Due.is("31: four ticks", x.tick(4), 0);
        Due.is("31: set again", x.timer(5), 5);
        Due.is("31: from when it was set", x.tick(4), 0);
        Due.is("31: the fifth", x.tick(1), 1);
        Due.is("31: four more", x.tick(4), 1);
        Due.is("31: the tenth", x.tick(1), 2);
        Due.is("31: none more", x.timer(0), 5);
        Due.is("31: silent", x.tick(100), 2);
        Due.is("31: was none", x.timer(1), 0);
        Due.is("31: each tick", x.tick(3), 5);
    }

    private static void promise32() {
        GlkStreams x = new GlkStreams();
        Due.is("32: channel -1", x.sound(-1, 1), OUTSIDE);
        Due.is("32: channel 2", x.sound(2, 1), OUTSIDE);
        Due.is("32: below", x.sound(0, -1), OUTSIDE);
        Due.is("32: beyond", x.sound(0, 1001), OUTSIDE);
        Due.is("32: begins", x.sound(0, 1000), 0);
        x.tick(300);
        Due.is("32: had left", x.sound(0, 3), 700);
        Due.is("32: the other one", x.sound(1, 2), 0);
        Due.is("32: one end", x.tick(2), 1);
        Due.is("32: two ends", x.tick(1), 2);
        Due.is("32: channel 1 ended first", x.event(), 3);
        Due.is("32: then channel 0", x.event(), 2);
        Due.is("32: once alone", x.tick(10), 0);
        Due.is("32: nothing left", x.sound(1, 9), 0);
        Due.is("32: none more", x.sound(1, 0), 9);
        Due.is("32: no end of it", x.tick(20), 0);
    }

    private static void promise33() {
        GlkStreams x = new GlkStreams();
        Due.is("33: below", x.tick(-1), OUTSIDE);
        Due.is("33: beyond", x.tick(1001), OUTSIDE);
        Due.is("33: no time", x.told(5), 0);
        x.timer(2);
        x.sound(1, 4);
        x.sound(0, 4);
        Due.is("33: four", x.tick(4), 4);
        Due.is("33: time", x.told(5), 4);
        Due.is("33: none", x.tick(0), 4);
        Due.are("33: order", new long[] {x.event(), x.event(), x.event(), x.event(), x.event()}, 1, 1, 2, 3, 0);
        Due.is("33: most", x.tick(1000), 8);
        Due.is("33: time", x.told(5), 1004);
        Due.is("33: lost", x.told(6), 492);
        x.event();
        Due.is("33: room for one", x.tick(4), 8);
        Due.is("33: lost", x.told(6), 493);
    }

    private static void promise34() {
        GlkStreams x = new GlkStreams();
        Due.is("34: none", x.event(), 0);
        x.timer(5);
        x.sound(0, 1);
        x.sound(1, 7);
        x.tick(31);
        // 2 at 1, 1 at 5, 3 at 7, 1 at 10, 15, 20, 25, 30
        Due.is("34: eight", x.tick(0), 8);
        Due.is("34: none lost", x.told(6), 0);
        Due.are("34: the eldest first", new long[] {x.event(), x.event(), x.event()}, 2, 1, 3);
        Due.is("34: five are there", x.tick(0), 5);
        x.sound(1, 1);
        x.tick(1);
        for (int due : new int[] {1, 1, 1, 1, 1, 3, 0, 0}) {
            Due.is("34: event()", x.event(), due);
        }
    }

    private static void promise35() {
        GlkStreams x = new GlkStreams();
        Due.is("35: what -1", x.told(-1), OUTSIDE);
        Due.is("35: what 8", x.told(8), OUTSIDE);
        x.pane();
        x.pane();
        x.pane();
        x.current(2);
        x.close(1);
        x.name('a');
        x.name('?');
        x.file(0);
        x.temporary(0);
        x.temporary(0);
        x.open(1, 1, true);
        x.timer(1);
        x.tick(15);
        x.held(0, 0);
        x.row(0, 1, -1);
        long[] all = new long[8];
        for (int what = 0; what < 8; what++) {
            all[what] = x.told(what);
        }
        Due.are("35: told", all, 3, 2, 1, 3, 1, 15, 7, 4);
    }

    /** What share() answers, NONE if it throws. */
    private static long shareOf(GlkStreams x) {
        try {
            return x.share();
        } catch (ArithmeticException e) {
            return NONE;
        }
    }

    private static void promise36() {
        GlkStreams x = new GlkStreams();
        Due.is("36: none put", shareOf(x), NONE);
        x.pane();
        x.put(1, 65);
        x.put(1, 65);
        Due.is("36: none dropped", shareOf(x), NONE);
        x.row(0, 1, 1);
        x.memory(0, 1, 1, false);
        x.echo(1, 2);
        x.put(1, 65);
        Due.is("36: none dropped yet", shareOf(x), NONE);
        x.put(1, 65);
        Due.is("36: six by one", shareOf(x), 6);
        x.put(2, 65);
        Due.is("36: seven by two", shareOf(x), 3);
        x.close(1);
        x.close(2);
        Due.is("36: closed ones, too", shareOf(x), 3);
        x.memory(7, 1, 1, false);
        x.put(3, 65);
        x.memory(0, 1, 2, false);
        x.put(4, 65);
        Due.is("36: what is refused does not count", shareOf(x), 3);
        x.pane();
        x.put(5, 65);
        Due.is("36: eight by two", shareOf(x), 4);
        x.temporary(0);
        x.open(0, 1, false);
        for (int i = 0; i < 61; i++) {
            x.put(6, 65);
        }
        Due.is("36: a full file drops none", shareOf(x), 34);
    }
}
