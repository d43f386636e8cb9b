/** Case, dates, events and what is told: the terms and promises 28 to 36, on both sides of each edge. */
public final class SignsEdgesTest {
    private static final String MOST = "100000000000000", BEYOND = "100000000000001";

    public static void main(String[] args) {
        caseRanges();
        caseAlone();
        caseOfNoSigns();
        leapYears();
        turnsOfADay();
        weekdays();
        datesFarOff();
        yearsBelow0();
        dateRefuses();
        timerEach();
        timerRefuses();
        soundsEnd();
        soundRefuses();
        ticks();
        eventsOfOneTick();
        eventsLost();
        toldEach();
        latestFault();
        shareCut();
        shareOfAll();
        the512thCall();
        Due.end();
    }

    /** A range of small signs, the distance to their great ones, and what is next to either end and not of it. */
    private static void range(int first, int last, int less, boolean alone) {
        String sentence = "28, 29: " + first + " to " + last + ": " + less + " less";
        for (int c : new int[] {first, last}) {
            int great = c - less;
            Run.of(sentence, "upper(" + c + ") = " + great, "lower(" + great + ") = " + c, "lower(" + c + ") = " + c,
                "upper(" + great + ") = " + great);
        }
        if (alone) {
            for (int c : new int[] {first - 1, last + 1}) {
                Run.of(sentence + ", but no others", "upper(" + c + ") = " + c,
                    "lower(" + (c - less) + ") = " + (c - less));
            }
        }
    }

    private static void caseRanges() {
        range(97, 122, 32, true);
        range(224, 254, 32, false);
        range(945, 969, 32, true);
        range(1072, 1103, 32, false);
        range(1104, 1119, 80, false);
        Run.of("28: 223, 1071, 1120 are no small ones", "upper(223) = 223; upper(1071) = 1071; upper(1120) = 1120");
        Run.of("29: 191, 223, 1023 have no small ones", "lower(191) = 191; lower(223) = 223; lower(1023) = 1023",
            "lower(1039) = 1119; lower(1040) = 1072; lower(1071) = 1103");
        for (int c = 257; c <= 303; c += 2) {
            Run.of("28, 29: odd ones of 257 to 303: 1 less", "upper(" + c + ") = " + (c - 1),
                "upper(" + (c - 1) + ") = " + (c - 1),
                "lower(" + (c - 1) + ") = " + c, "lower(" + c + ") = " + c);
        }
        Run.of("28, 29: ... and no others", "upper(305) = 305; lower(304) = 304; upper(304) = 304; upper(256) = 256",
            "lower(305) = 305");
    }

    private static void caseAlone() {
        Run.of("28, 29: (but 247)", "upper(247) = 247; lower(215) = 215; upper(246) = 214; lower(214) = 246",
            "upper(248) = 216; lower(216) = 248");
        Run.of("28, 29: (but 962); 962: 931; 931 is 963", "upper(962) = 931; upper(963) = 931; lower(931) = 963",
            "lower(930) = 930; lower(962) = 962; lower(963) = 963",
            "upper(961) = 929; lower(929) = 961; upper(964) = 932; lower(932) = 964; upper(931) = 931",
            "upper(930) = 930");
        Run.of("28, 29: 255: 376", "upper(255) = 376; lower(376) = 255; upper(376) = 376; lower(255) = 255",
            "upper(254) = 222; lower(375) = 375; lower(377) = 377",
            "lower(223) = 223; upper(256) = 256");
    }

    private static void caseOfNoSigns() {
        for (String c : new String[] {"-1", "1114112", "MIN", "MAX"}) {
            Run.of("28, 29: NONE: it is none", "upper(" + c + ") = NONE", "lower(" + c + ") = NONE");
        }
        for (String c : new String[] {"0", "1114111"}) {
            Run.of("28, 29: a SIGN", "upper(" + c + ") = " + c, "lower(" + c + ") = " + c);
        }
    }

    private static String date(long seconds, int year, int month, int day) {
        String of = "date(" + seconds + ", ";
        return of + "0) = " + year + "; " + of + "1) = " + month + "; " + of + "2) = " + day;
    }

    private static void leapYears() {
        String sentence = "T: a leap year each 4th year, but of each 100th the 400th alone, forward and back";
        // Seconds at the beginning of 1 March, told apart from the class by the calendar of the Java library.
        int[] leap = {1972, 2000, 2004, 2096, 2400, 1968, 1600, 4, 0, -4, -400, 400};
        int[] plain = {1970, 2001, 2100, 2200, 2300, 1900, 1700, 1, -1, -100, 100, -200};
        for (int year : leap) {
            long march = java.time.LocalDate.of(year, 3, 1).toEpochDay() * 86400;
            int told = year < 0 ? year - 10 : year;
            Run.of(sentence, date(march - 1, told, 2, 29), date(march, told, 3, 1), date(march - 86400, told, 2, 29),
                date(march - 86401, told, 2, 28));
        }
        for (int year : plain) {
            long march = java.time.LocalDate.of(year, 3, 1).toEpochDay() * 86400;
            int told = year < 0 ? year - 10 : year;
            Run.of(sentence, date(march - 1, told, 2, 28), date(march, told, 3, 1), date(march - 86400, told, 2, 28),
                date(march - 86401, told, 2, 27));
        }
        int[] days = {31, 28, 31, 30, 31, 30, 31, 31, 30, 31, 30, 31};
        long begin = 0;
        for (int month = 1; month <= 12; month++) {
            long end = begin + days[month - 1] * 86400L;
            Run.of("T: month 1 to 12, day", date(begin, 1970, month, 1), date(end - 1, 1970, month, days[month - 1]));
            begin = end;
        }
        Run.of("T: month 1 to 12, day", date(begin, 1971, 1, 1), date(-1, 1969, 12, 31));
    }

    private static void turnsOfADay() {
        String sentence = "T: hour, minute, second";
        Run.of(sentence, "date(0, 4) = 0; date(0, 5) = 0; date(0, 6) = 0; date(59, 5) = 0; date(59, 6) = 59",
            "date(60, 5) = 1; date(60, 6) = 0");
        Run.of(sentence, "date(3599, 4) = 0; date(3599, 5) = 59; date(3599, 6) = 59; date(3600, 4) = 1",
            "date(3600, 5) = 0; date(3600, 6) = 0");
        Run.of(sentence, "date(86399, 4) = 23; date(86399, 5) = 59; date(86399, 2) = 1; date(86400, 4) = 0",
            "date(86400, 2) = 2; date(86400, 5) = 0");
        Run.of(sentence + ", before 1970", "date(-1, 4) = 23; date(-1, 5) = 59; date(-1, 6) = 59; date(-60, 5) = 59",
            "date(-60, 6) = 0; date(-61, 5) = 58",
            "date(-61, 6) = 59; date(-3600, 4) = 23; date(-3601, 4) = 22; date(-86400, 4) = 0; date(-86400, 2) = 31",
            "date(-86401, 4) = 23; date(-86401, 2) = 30");
    }

    private static void weekdays() {
        Run run = Run.of("T: weekday (0: a sunday)");
        for (int day = -10; day <= 10; day++) {
            // The first day of 1970 was a thursday.
            int due = Math.floorMod(day + 4, 7);
            run.then("date(" + day * 86400L + ", 3) = " + due, "date(" + (day * 86400L + 86399) + ", 3) = " + due);
        }
    }

    private static void datesFarOff() {
        Run.of("30: seconds beyond 10^14 in amount", "date(" + MOST + ", 0) = 3170843",
            "date(" + BEYOND + ", 0) = OUTSIDE; date(-" + MOST + ", 0) = -3166914",
            "date(-" + BEYOND + ", 0) = OUTSIDE; date(9223372036854775807, 0) = OUTSIDE",
            "date(-9223372036854775808, 0) = OUTSIDE");
        for (int what = 0; what <= 6; what++) {
            Run.of("30: seconds beyond 10^14 in amount", "date(" + BEYOND + ", " + what + ") = OUTSIDE",
                "date(-" + BEYOND + ", " + what + ") = OUTSIDE");
        }
        Run.of("30: seconds of 10^14 in amount", "date(" + MOST + ", 1) = 11; date(" + MOST + ", 2) = 7",
            "date(" + MOST + ", 3) = 6; date(" + MOST + ", 4) = 9",
            "date(" + MOST + ", 5) = 46; date(" + MOST + ", 6) = 40; date(-" + MOST + ", 1) = 2",
            "date(-" + MOST + ", 2) = 24; date(-" + MOST + ", 4) = 14",
            "date(-" + MOST + ", 5) = 13; date(-" + MOST + ", 6) = 20");
    }

    private static void yearsBelow0() {
        Run.of("30: A year below 0 is told as it is less 10", date(-62167219200L, 0, 1, 1),
            date(-62167219201L, -11, 12, 31), date(-62135596800L, 1, 1, 1),
            date(-62135596801L, 0, 12, 31), date(-62198755200L, -11, 1, 1), date(-62198755201L, -12, 12, 31));
    }

    private static void dateRefuses() {
        for (String what : new String[] {"-1", "7", "MIN", "MAX"}) {
            Run.of("30: OUTSIDE: what", "date(0, " + what + ") = OUTSIDE", "date(-1, " + what + ") = OUTSIDE",
                "date(" + BEYOND + ", " + what + ") = OUTSIDE");
        }
        Run.of("30: what 0 to 6", "date(0, 0) = 1970; date(0, 6) = 0");
    }

    private static void timerEach() {
        String sentence = "T: THE TIMER tells an event each so many TICKS, from when it was set";
        for (int every : new int[] {1, 2, 999, 1000}) {
            Run.of(sentence, "timer(" + every + ") = 0", "tick(" + (every - 1) + ") = 0", "tick(1) = 1",
                "tick(" + (every - 1) + ") = 1", "tick(1) = 2",
                "event() = 1; event() = 1; event() = 0");
        }
        Run.of(sentence, "tick(2) = 0; timer(3) = 0; tick(2) = 0; tick(1) = 1; event() = 1");
        Run.of(sentence + ", set again", "timer(3) = 0; tick(2) = 0; timer(3) = 3; tick(2) = 0; tick(1) = 1");
        Run.of(sentence + ", set otherwise", "timer(3) = 0; tick(2) = 0; timer(1) = 3; tick(1) = 1; timer(5) = 1",
            "tick(4) = 1; tick(1) = 2");
        Run.of("31: 0: none more", "timer(2) = 0; tick(1) = 0; timer(0) = 2; tick(1000) = 0; timer(2) = 0",
            "tick(1) = 0; tick(1) = 1; timer(0) = 2; timer(0) = 0");
    }

    private static void timerRefuses() {
        for (String every : new String[] {"-1", "1001", "MIN", "MAX"}) {
            Run.of("31: OUTSIDE: not 0 to 1000", "timer(2) = 0; tick(1) = 0; timer(" + every + ") = OUTSIDE",
                "tick(1) = 1; timer(0) = 2");
        }
        Run.of("31: 0 to 1000: what it was", "timer(1000) = 0; timer(1) = 1000; timer(0) = 1; timer(1000) = 0");
    }

    private static void soundsEnd() {
        for (int channel = 0; channel <= 1; channel++) {
            String sound = "sound(" + channel + ", ";
            for (int ticks : new int[] {1, 2, 999, 1000}) {
                Run.of("T: one sound of so many TICKS, that tells an event at its end", sound + ticks + ") = 0",
                    "tick(" + (ticks - 1) + ") = 0", "tick(1) = 1",
                    "event() = " + (2 + channel), "tick(1000) = 0; event() = 0");
            }
            Run.of("32: in place of one there: how many TICKS that had left", sound + "5) = 0; tick(2) = 0",
                sound + "4) = 3; tick(3) = 0; tick(1) = 1",
                sound + "1) = 0; tick(1) = 2; tick(9) = 2");
            Run.of("32: 0: none more", sound + "5) = 0; tick(4) = 0", sound + "0) = 1; tick(5) = 0", sound + "0) = 0",
                sound + "7) = 0", sound + "0) = 7");
            Run.of("32: just ended, it has none left", sound + "5) = 0; tick(5) = 1", sound + "1) = 0");
            String other = "sound(" + (1 - channel) + ", ";
            Run.of("T: CHANNELS 0, 1 each play one sound", sound + "5) = 0", other + "6) = 0", "tick(2) = 0",
                sound + "0) = 3", other + "0) = 4");
        }
    }

    private static void soundRefuses() {
        for (String channel : new String[] {"-1", "2", "MIN", "MAX"}) {
            Run.of("32: OUTSIDE: CHANNEL", "sound(" + channel + ", 1) = OUTSIDE; sound(" + channel + ", 0) = OUTSIDE",
                "tick(5) = 0");
        }
        for (int channel = 0; channel <= 1; channel++) {
            String sound = "sound(" + channel + ", ";
            for (String ticks : new String[] {"-1", "1001", "MIN", "MAX"}) {
                Run.of("32: OUTSIDE: not 0 to 1000", sound + "3) = 0; tick(1) = 0", sound + ticks + ") = OUTSIDE",
                    "tick(1) = 0; tick(1) = 1");
            }
            Run.of("32: 0 to 1000", sound + "1000) = 0", sound + "0) = 1000");
        }
    }

    private static void ticks() {
        for (String n : new String[] {"-1", "1001", "MIN", "MAX"}) {
            Run.of("33: OUTSIDE", "timer(1) = 0; sound(0, 1) = 0; tick(" + n + ") = OUTSIDE; told(5) = 0",
                "sound(0, 0) = 1; tick(1) = 1");
        }
        Run.of("33: So many TICKS (0 to 1000)", "tick(0) = 0; told(5) = 0; tick(1) = 0; told(5) = 1; tick(1000) = 0",
            "told(5) = 1001");
        Run.of("33: how many EVENTS there are", "timer(1) = 0; tick(0) = 0; tick(3) = 3; tick(0) = 3; event() = 1",
            "tick(0) = 2; tick(1) = 3");
    }

    private static void eventsOfOneTick() {
        Run.of("T: those of one TICK in the order TIMER (1), CHANNEL 0 (2), CHANNEL 1 (3)",
            "sound(1, 2) = 0; sound(0, 2) = 0; timer(2) = 0; tick(2) = 3",
            "event() = 1; event() = 2; event() = 3; event() = 0");
        Run.of("T: those of an earlier TICK before", "timer(3) = 0; sound(0, 2) = 0; sound(1, 1) = 0; tick(3) = 3",
            "event() = 3; event() = 2; event() = 1; event() = 0");
        Run.of("34: The eldest EVENT, which is there no more; 0: none", "event() = 0; sound(0, 1) = 0; tick(1) = 1",
            "event() = 2; tick(0) = 0; event() = 0; event() = 0");
    }

    private static void eventsLost() {
        String sentence = "T: EVENTS are kept, 8 at most (more are lost)";
        Run.of(sentence, "timer(1) = 0; tick(7) = 7; told(6) = 0; tick(1) = 8; told(6) = 0; tick(1) = 8; told(6) = 1",
            "event() = 1; told(6) = 1; tick(0) = 7",
            "tick(1) = 8; told(6) = 1; tick(2) = 8; told(6) = 3");
        Run.of(sentence + ": the later ones", "timer(1) = 0; tick(8) = 8; timer(0) = 1; sound(0, 1) = 0; tick(1) = 8",
            "told(6) = 1; event() = 1 # 8; event() = 0");
        Run.of(sentence + ": of one TICK the later ones", "timer(1) = 0; tick(6) = 6; sound(0, 1) = 0",
            "sound(1, 1) = 0; tick(1) = 8; told(6) = 1; event() = 1 # 7",
            "event() = 2; event() = 0");
        Run.of(sentence + ": TIME goes on", "timer(1) = 0; tick(1000) = 8; told(5) = 1000; told(6) = 992",
            "sound(1, 2) = 0; tick(1) = 8; sound(1, 0) = 1; told(6) = 993");
    }

    private static void toldEach() {
        for (String what : new String[] {"-1", "8", "MIN", "MAX"}) {
            Run.of("35: OUTSIDE", "told(" + what + ") = OUTSIDE");
        }
        Run.of("35: STREAMS that are open", "told(0) = 0; pane() = 1; told(0) = 1; pane() # 7; told(0) = 8",
            "pane() = FULL; told(0) = 8; close(4) = 0; told(0) = 7");
        Run.of("35: the current one (0)", "told(1) = 0; pane() = 1; told(1) = 0; current(1) = 0; told(1) = 1",
            "close(1) = 0; told(1) = 0");
        Run.of("35: FILES", "temporary(0) = 0; told(2) = 0; open(0, 1, false) = 1; told(2) = 1; close(1) = 0",
            "told(2) = 1; drop(0) = 1; told(2) = 0");
        Run.of("35: REFERENCES", "told(3) = 0; temporary(0) = 0; told(3) = 1; name(97); told(3) = 1; file(0) = 1",
            "told(3) = 2; drop(0) = 0; told(3) = 2");
        Run.of("35: TIME", "told(5) = 0; tick(1000) = 0 # 510; told(5) = 510000");
    }

    private static void latestFault() {
        Run.of("35: the latest FAULT (0)", "told(7) = 0; set(0, 1, 0, 0) = NULL; told(7) = 1; row(0, 1, 0) = 1",
            "told(7) = 1; set(0, 1, 0, 0) = INDEX; told(7) = 3",
            "set(0, 2, 0, 0) = CAST; told(7) = 2; row(0, 1, -1) = SIZE; told(7) = 4; row(1, 2, 0)",
            "copy(0, 0, 1, 0, 0) = STORE; told(7) = 5",
            "item(2, 1, 0) = NULL; told(7) = 1; held(0, 0) = CAST; told(7) = 2; memory(1, 1, 3, true) = 1",
            "put(1, 65) = INDEX; told(7) = 3",
            "give(0, 5) = NULL; told(7) = 1; get(1) = INDEX; told(7) = 3; set(9, 1, 0, 0) = UNKNOWN; told(7) = 3",
            "told(9) = OUTSIDE; told(7) = 3");
    }

    private static void shareCut() {
        String memory = "row(0, 1, 2); memory(0, 2, 1, false) = 1";
        Run.of("36: ArithmeticException: none was", "share() = throws.ArithmeticException", memory,
            "put(1, 65) = 1 # 2; share() = throws.ArithmeticException",
            "put(1, 65) = 1; share() = 3; share() = 3");
        Run.of("36: cut", memory, "put(1, 65) = 1 # 3; share() = 3; put(1, 65) = 1; share() = 2; put(1, 65) = 1",
            "share() = 1; put(1, 65) = 1; share() = 1");
        Run.of("36: cut", "memory(0, 0, 1, false) = 1; put(1, 65) = 1 # 3; share() = 1; pane() = 2",
            "put(2, 65) = 1 # 2; share() = 1; put(2, 65) = 1; share() = 2");
        Run.of("36: it throws again and again", "share() = throws.ArithmeticException # 3; told(7) = 0; pane() = 1");
    }

    private static void shareOfAll() {
        Run.of("36: SIGNS put into all STREAMS ever", "memory(0, 0, 1, false) = 1; put(1, 65) = 1; close(1) = 1",
            "share() = 1; pane() = 2; put(2, 65) = 1 # 4; share() = 5",
            "close(2) = 4; share() = 5; temporary(0) = 0; open(0, 1, false) = 3; put(3, 65) = 1; share() = 6",
            "drop(0) = STATE; close(3); drop(0) = 1; share() = 6");
        Run.of("36: of an ECHO, too", "pane() = 1; memory(0, 0, 1, false) = 2; echo(1, 2) = 1; put(1, 65) = 1",
            "share() = 2; put(1, 65) = 1; share() = 2");
        Run.of("36: what is refused, or a FAULT, is not put", "memory(0, 0, 1, false) = 1; put(1, 65) = 1",
            "memory(0, 1, 1, false) = 2; put(2, 65) = NULL; share() = 1",
            "memory(0, 0, 2, false) = 3; put(3, 65) = STATE; put(1, -1) = OUTSIDE; put(9, 65) = UNKNOWN",
            "say(65) = STATE; share() = 1");
        Run.of("36: what a PANE shows no more was not dropped", "pane() = 1; put(1, 65) = 1 # 25",
            "share() = throws.ArithmeticException");
        Run.of("36: what is 63 instead was not dropped", "row(0, 1, 1); memory(0, 1, 1, false) = 1; put(1, 256) = 1",
            "share() = throws.ArithmeticException");
    }

    private static void the512thCall() {
        Run run = Run.of("An object is used for at most 512 calls", "memory(0, 0, 1, false) = 1; put(1, 65) = 1 # 509",
            "about(1, 3) = 509; share() = 1");
        Due.is("512 calls", run.calls(), Run.MOST_CALLS);
        run = Run.of("An object is used for at most 512 calls", "pane() = 1; put(1, 65) = 1 # 510; close(1) = 510");
        Due.is("512 calls", run.calls(), Run.MOST_CALLS);
    }
}
