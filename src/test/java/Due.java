/** Tells every call whose answer is not the one that is due, and counts them. */
final class Due {
    private static int wrong = 0;

    private Due() {
    }

    static void is(String call, long got, long want) {
        if (got != want) {
            wrong++;
            System.out.println(call + " answered " + got + ", due is " + want);
        }
    }

    static void same(String call, String got, String want) {
        if (!got.equals(want)) {
            wrong++;
            System.out.println(call + " answered " + got + ", due is " + want);
        }
    }

    /** The answers of a run of calls, in order. */
    static void are(String calls, long[] got, long... want) {
        if (got.length != want.length) {
            wrong++;
            System.out.println(calls + ": " + got.length + " answers, due are " + want.length);
            return;
        }
        for (int i = 0; i < got.length; i++) {
            is(calls + " [" + i + "]", got[i], want[i]);
        }
    }

    static void end() {
        System.out.println(wrong == 0 ? "all answers are as due" : wrong + " answers are not as due");
        if (wrong != 0) {
            System.exit(1);
        }
    }
}
