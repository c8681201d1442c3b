/** Compares answers with those that are due, by sentences, and calls the two methods that may throw. */
final class Due {
    /** Stand for a thrown exception in a row of answers; no call answers them. */
    static final long ILLEGAL_ARGUMENT = Long.MIN_VALUE;
    static final long ARRAY_INDEX = Long.MIN_VALUE + 1;
    /** Stands for what the Java machine threw itself at an index, where the class must throw on its own. */
    static final long MACHINE = Long.MIN_VALUE + 2;

    private static int checked = 0;
    private static int wrong = 0;
    private static String place = "";

    private Due() {
    }

    /** A sentence's test, by itself: what it throws fails it and leaves the others alone. */
    static void test(String sentence, Runnable test) {
        int before = checked;
        place = sentence + ": ";
        try {
            test.run();
        } catch (RuntimeException e) {
            fail("threw " + e);
        }
        if (checked == before) {
            fail("compared nothing");
        }
        place = "";
    }

    static void is(String call, long got, long due) {
        checked++;
        if (got != due) {
            fail(call + " answered " + text(got) + ", due is " + text(due));
        }
    }

    static void is(String call, boolean got, boolean due) {
        is(call, got ? 1 : 0, due ? 1 : 0);
    }

    static void same(String what, Object got, Object due) {
        checked++;
        if (!got.equals(due)) {
            fail(what + " is " + got + ", due is " + due);
        }
    }

    /** A machine with a plan. */
    static PassSearch planned(int bins, long points) {
        PassSearch x = new PassSearch(bins);
        passes(x, points);
        return x;
    }

    static long passes(PassSearch x, long points) {
        try {
            return x.passes(points);
        } catch (IllegalArgumentException e) {
            return ILLEGAL_ARGUMENT;
        }
    }

    static long digits(PassSearch x, int i) {
        try {
            return x.digits(i);
        } catch (ArrayIndexOutOfBoundsException e) {
            // the machine's own text begins so
            return String.valueOf(e.getMessage()).startsWith("Index ") ? MACHINE : ARRAY_INDEX;
        }
    }

    static void sizes(PassSearch x, int... due) {
        for (int pass = 0; pass < due.length; pass++) {
            is("digits(" + pass + ")", digits(x, pass), due[pass]);
        }
        is("digits(" + due.length + ")", digits(x, due.length), ARRAY_INDEX);
    }

    static void end() {
        System.out.println(checked + " answers compared, " + wrong + " not as due");
        if (wrong != 0) {
            System.exit(1);
        }
    }

    private static void fail(String what) {
        wrong++;
        System.out.println(place + what);
    }

    private static String text(long answer) {
        return answer == ILLEGAL_ARGUMENT ? "throws.IllegalArgumentException"
                : answer == ARRAY_INDEX ? "throws.ArrayIndexOutOfBoundsException"
                : answer == MACHINE ? "what the machine throws" : Long.toString(answer);
    }
}
