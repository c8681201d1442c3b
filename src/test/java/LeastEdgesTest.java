import java.util.List;

/** Promise 11, "least": the edges that its sentence names, a test each. */
public final class LeastEdgesTest {
    private static final int STATE = PassSearch.STATE;
    private static final long MOST = 1L << 62;

    public static void main(String[] args) {
        Due.test("just as many as are needed, no more and no fewer", LeastEdgesTest::justAsMany);
        Due.test("at a power of the bins", LeastEdgesTest::powers);
        Due.test("one point needs none", LeastEdgesTest::onePoint);
        Due.test("2 to the 62 points", LeastEdgesTest::mostPoints);
        Due.test("passes below 0, and far too many", LeastEdgesTest::impossiblePasses);
        Due.test("false for no bins", LeastEdgesTest::noBins);
        Due.test("false for one bin", LeastEdgesTest::oneBin);
        Due.test("two bins are enough", LeastEdgesTest::twoBins);
        Due.test("false for points below 1", LeastEdgesTest::tooFewPoints);
        Due.test("false for points above 2 to the 62", LeastEdgesTest::tooManyPoints);
        Due.test("plan or not", LeastEdgesTest::planOrNot);
        Due.test("the plan is not changed", LeastEdgesTest::planNotChanged);
        Due.end();
    }

    private static void justAsMany() {
        PassSearch x = new PassSearch(10);
        for (int passes = -1; passes < 64; passes++) {
            Due.is("least(500, " + passes + ")", x.least(500, passes), passes == 3);
        }
    }

    private static void powers() {
        for (int bins : new int[] {2, 3, 10, 65535, 65536}) {
            PassSearch x = new PassSearch(bins);
            long power = bins;
            for (int passes = 1; power <= MOST / bins; passes++) {
                Due.is(bins + " bins, least(" + power + ", " + passes + ")", x.least(power, passes), true);
                Due.is(bins + " bins, least(" + power + ", one more)", x.least(power, passes + 1), false);
                Due.is(bins + " bins, least(" + power + " + 1, " + passes + ")", x.least(power + 1, passes), false);
                Due.is(bins + " bins, least(" + power + " + 1, one more)", x.least(power + 1, passes + 1), true);
                power *= bins;
            }
        }
    }

    private static void onePoint() {
        for (int bins : new int[] {2, 10, 65536}) {
            PassSearch x = new PassSearch(bins);
            Due.is(bins + " bins, least(1, 0)", x.least(1, 0), true);
            Due.is(bins + " bins, least(1, 1)", x.least(1, 1), false);
            Due.is(bins + " bins, least(1, -1)", x.least(1, -1), false);
            Due.is(bins + " bins, least(2, 0)", x.least(2, 0), false);
            Due.is(bins + " bins, least(2, 1)", x.least(2, 1), true);
        }
    }

    private static void mostPoints() {
        int[] bins = {2, 3, 10, 65536};
        int[] passes = {62, 40, 19, 4};
        for (int k = 0; k < bins.length; k++) {
            PassSearch x = new PassSearch(bins[k]);
            Due.is(bins[k] + " bins, least(2^62, " + passes[k] + ")", x.least(MOST, passes[k]), true);
            Due.is(bins[k] + " bins, least(2^62, one more)", x.least(MOST, passes[k] + 1), false);
            Due.is(bins[k] + " bins, least(2^62, one less)", x.least(MOST, passes[k] - 1), false);
        }
    }

    private static void impossiblePasses() {
        PassSearch x = new PassSearch(10);
        for (int passes : new int[] {Integer.MIN_VALUE, -1, 62, 63, Integer.MAX_VALUE}) {
            for (long points : new long[] {1, 2, 1000, MOST}) {
                Due.is("least(" + points + ", " + passes + ")", x.least(points, passes), false);
            }
        }
    }

    private static void noBins() {
        for (int bins : new int[] {Integer.MIN_VALUE, -1, 0}) {
            falseForAll(bins);
        }
    }

    private static void oneBin() {
        falseForAll(1);
    }

    private static void falseForAll(int bins) {
        PassSearch x = new PassSearch(bins);
        for (long points : new long[] {-1, 0, 1, 2, 5, MOST, MOST + 1}) {
            for (int passes : new int[] {-1, 0, 1, 2, 61, 62, 63}) {
                Due.is(bins + " bins, least(" + points + ", " + passes + ")", x.least(points, passes), false);
            }
        }
    }

    private static void twoBins() {
        PassSearch x = new PassSearch(2);
        Due.is("least(1, 0)", x.least(1, 0), true);
        Due.is("least(2, 1)", x.least(2, 1), true);
        Due.is("least(3, 2)", x.least(3, 2), true);
    }

    private static void tooFewPoints() {
        PassSearch x = new PassSearch(10);
        for (long points : new long[] {0, -1, -MOST, Long.MIN_VALUE}) {
            for (int passes = -1; passes < 64; passes++) {
                Due.is("least(" + points + ", " + passes + ")", x.least(points, passes), false);
            }
        }
    }

    private static void tooManyPoints() {
        for (int bins : new int[] {2, 10}) {
            for (long points : new long[] {MOST + 1, MOST + 2, Long.MAX_VALUE}) {
                PassSearch x = new PassSearch(bins);
                for (int passes = -1; passes < 65; passes++) {
                    Due.is(bins + " bins, least(" + points + ", " + passes + ")", x.least(points, passes), false);
                }
            }
        }
    }

    private static void planOrNot() {
        PassSearch x = new PassSearch(10);
        Due.is("least(1000, 3) without a plan", x.least(1000, 3), true);
        for (long points : new long[] {1, 30, 1000, 1001, MOST}) {
            Due.passes(x, points);
            x.volume(0, 5);
            Due.is("least(1000, 3) with a plan for " + points, x.least(1000, 3), true);
            Due.is("least(1001, 3) with a plan for " + points, x.least(1001, 3), false);
            Due.is("least(0, 0) with a plan for " + points, x.least(0, 0), false);
        }
    }

    private static void planNotChanged() {
        PassSearch x = new PassSearch(10);
        x.least(1000, 3);
        Due.is("trays() without a plan", x.trays(), STATE);
        Due.passes(x, 30);
        x.volume(29, 2);
        x.volume(7, 3);
        List<Long> before = Seen.of(x, 10, 5);
        x.least(1000, 3);
        x.least(0, 0);
        Due.same("the state", Seen.of(x, 10, 5), before);
    }
}
