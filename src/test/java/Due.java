/** Compares answers with those that are due, and calls the two methods that may throw. */
final class Due {
    /** Stand for a thrown exception in a row of answers; no call answers them. */
    static final long ILLEGAL_ARGUMENT = Long.MIN_VALUE;
    static final long ARRAY_INDEX = Long.MIN_VALUE + 1;

    private static int checked = 0;
    private static int wrong = 0;

    private Due() {
    }

    static void is(String call, long got, long due) {
        checked++;
        if (got != due) {
            wrong++;
            System.out.println(call + " answered " + text(got) + ", due is " + text(due));
        }
    }

    static void is(String call, boolean got, boolean due) {
        is(call, got ? 1 : 0, due ? 1 : 0);
    }

    static long passes(PassSearch x, long points) {
        try {
            return x.passes(points);
        } catch (IllegalArgumentException e) {
            return ILLEGAL_ARGUMENT;
        }
    }

    static long digits(PassSearch x, int i) {
        try {
            return x.digits(i);
        } catch (ArrayIndexOutOfBoundsException e) {
            return ARRAY_INDEX;
        }
    }

    static void sizes(PassSearch x, int... due) {
        for (int pass = 0; pass < due.length; pass++) {
            is("digits(" + pass + ")", digits(x, pass), due[pass]);
        }
        is("digits(" + due.length + ")", digits(x, due.length), ARRAY_INDEX);
    }

    static void end() {
        System.out.println(checked + " answers compared, " + wrong + " not as due");
        if (wrong != 0) {
            System.exit(1);
        }
    }

    private static String text(long answer) {
        return answer == ILLEGAL_ARGUMENT ? "throws.IllegalArgumentException"
                : answer == ARRAY_INDEX ? "throws.ArrayIndexOutOfBoundsException" : Long.toString(answer);
    }
}
