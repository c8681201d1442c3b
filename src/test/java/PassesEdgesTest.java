import java.util.List;

/** Promise 2, "passes": the edges that its sentences name, a test each. */
public final class PassesEdgesTest {
    private static final int UNKNOWN = PassSearch.UNKNOWN;
    private static final int OUTSIDE = PassSearch.OUTSIDE;
    private static final int STATE = PassSearch.STATE;
    private static final long MOST = 1L << 62;
    private static final long[] TOO_FEW = {0, -1, -2, -MOST, Long.MIN_VALUE + 1, Long.MIN_VALUE};
    private static final long[] TOO_MANY = {MOST + 1, MOST + 2, MOST + (MOST - 1)};

    public static void main(String[] args) {
        Due.test("0 passes for one point", PassesEdgesTest::onePoint);
        Due.test("one pass for two points", PassesEdgesTest::twoPoints);
        Due.test("as many as are needed, at a power of the bins", PassesEdgesTest::powers);
        Due.test("2 to the 62 points are a plan", PassesEdgesTest::mostPoints);
        Due.test("OUTSIDE when points is below 1", PassesEdgesTest::tooFewPoints);
        Due.test("OUTSIDE when points is above 2 to the 62", PassesEdgesTest::tooManyPoints);
        Due.test("OUTSIDE, and the plan before stays", PassesEdgesTest::planBeforeStays);
        Due.test("OUTSIDE, and a plan of one point stays", PassesEdgesTest::planOfOnePointStays);
        Due.test("OUTSIDE, and there is still no plan", PassesEdgesTest::noPlanStaysNone);
        Due.test("IllegalArgumentException with fewer than two bins", PassesEdgesTest::fewBins);
        Due.test("first, whatever points is", PassesEdgesTest::fewBinsWhateverPoints);
        Due.test("throws, and there is still no plan", PassesEdgesTest::throwingMakesNoPlan);
        Due.test("two bins do not throw", PassesEdgesTest::twoBinsDo);
        Due.test("in place of the plan before", PassesEdgesTest::inPlaceOfTheOneBefore);
        Due.test("the new plan is without items", PassesEdgesTest::withoutItems);
        Due.test("the same plan again is without items", PassesEdgesTest::samePlanWithoutItems);
        Due.test("a full plan's items are gone", PassesEdgesTest::fullPlanWithoutItems);
        Due.end();
    }

    private static void onePoint() {
        for (int bins : new int[] {2, 3, 10, 65536}) {
            PassSearch x = new PassSearch(bins);
            Due.is(bins + " bins, passes(1)", Due.passes(x, 1), 0);
            Due.is(bins + " bins, digits(0)", Due.digits(x, 0), Due.ARRAY_INDEX);
            Due.is(bins + " bins, volume(0, 1)", x.volume(0, 1), 1);
            Due.is(bins + " bins, volume(1, 1)", x.volume(1, 1), UNKNOWN);
        }
    }

    private static void twoPoints() {
        for (int bins : new int[] {2, 3, 10, 65536}) {
            PassSearch x = new PassSearch(bins);
            Due.is(bins + " bins, passes(2)", Due.passes(x, 2), 1);
            Due.sizes(x, 2);
        }
    }

    private static void powers() {
        for (int bins : new int[] {2, 3, 7, 10, 256, 46341, 65535, 65536}) {
            PassSearch x = new PassSearch(bins);
            long power = bins;
            for (int passes = 1; power <= MOST / bins; passes++) {
                Due.is(bins + " bins, passes(" + power + ")", Due.passes(x, power), passes);
                Due.is(bins + " bins, passes(" + power + " + 1)", Due.passes(x, power + 1), passes + 1);
                power *= bins;
            }
        }
    }

    private static void mostPoints() {
        int[] bins = {2, 3, 4, 10, 65535, 65536};
        int[] passes = {62, 40, 31, 19, 4, 4};
        for (int k = 0; k < bins.length; k++) {
            PassSearch x = new PassSearch(bins[k]);
            Due.is(bins[k] + " bins, passes(2^62)", Due.passes(x, MOST), passes[k]);
            Due.is(bins[k] + " bins, volume(2^62 - 1, 1)", x.volume(MOST - 1, 1), 1);
            Due.is(bins[k] + " bins, volume(2^62, 1)", x.volume(MOST, 1), UNKNOWN);
        }
    }

    private static void tooFewPoints() {
        for (long points : TOO_FEW) {
            Due.is("passes(" + points + ")", Due.passes(new PassSearch(10), points), OUTSIDE);
        }
    }

    private static void tooManyPoints() {
        for (long points : TOO_MANY) {
            Due.is("passes(" + points + ")", Due.passes(new PassSearch(10), points), OUTSIDE);
        }
    }

    private static void planBeforeStays() {
        for (long[] all : new long[][] {TOO_FEW, TOO_MANY}) {
            for (long points : all) {
                PassSearch x = Due.planned(10, 30);
                x.volume(29, 2);
                x.volume(7, 3);
                List<Long> before = Seen.of(x, 10, 5);
                Due.passes(x, points);
                Due.same("the state behind passes(" + points + ")", Seen.of(x, 10, 5), before);
                Due.is("volume(28, 1)", x.volume(28, 1), 6);
                Due.sizes(x, 5, 6);
            }
        }
    }

    private static void planOfOnePointStays() {
        PassSearch x = Due.planned(10, 1);
        x.volume(0, 4);
        Due.passes(x, 0);
        Due.passes(x, MOST + 1);
        Due.is("volume(0, 0)", x.volume(0, 0), 4);
        Due.is("trays()", x.trays(), 0);
    }

    private static void noPlanStaysNone() {
        PassSearch x = new PassSearch(10);
        for (long points : new long[] {0, -1, MOST + 1}) {
            Due.passes(x, points);
            Due.is("trays() behind passes(" + points + ")", x.trays(), STATE);
            Due.is("digits(0) behind passes(" + points + ")", Due.digits(x, 0), Due.ARRAY_INDEX);
        }
    }

    private static void fewBins() {
        for (int bins : new int[] {Integer.MIN_VALUE, -1, 0, 1}) {
            Due.is(bins + " bins, passes(5)", Due.passes(new PassSearch(bins), 5), Due.ILLEGAL_ARGUMENT);
        }
    }

    private static void fewBinsWhateverPoints() {
        for (int bins : new int[] {-1, 0, 1}) {
            PassSearch x = new PassSearch(bins);
            for (long points : new long[] {Long.MIN_VALUE, -1, 0, 1, 2, MOST, MOST + 1, Long.MAX_VALUE}) {
                Due.is(bins + " bins, passes(" + points + ")", Due.passes(x, points), Due.ILLEGAL_ARGUMENT);
            }
        }
    }

    private static void throwingMakesNoPlan() {
        PassSearch x = new PassSearch(1);
        x.height(0, 9);
        Due.passes(x, 1);
        Due.passes(x, 5);
        Due.is("trays()", x.trays(), STATE);
        Due.is("volume(0, 1)", x.volume(0, 1), STATE);
        Due.is("digits(0)", Due.digits(x, 0), Due.ARRAY_INDEX);
        Due.is("height(0, 1)", x.height(0, 1), 9);
    }

    private static void twoBinsDo() {
        PassSearch x = new PassSearch(2);
        Due.is("passes(0)", Due.passes(x, 0), OUTSIDE);
        Due.is("passes(1)", Due.passes(x, 1), 0);
        Due.is("passes(2)", Due.passes(x, 2), 1);
    }

    private static void inPlaceOfTheOneBefore() {
        PassSearch x = Due.planned(10, 1001);
        Due.is("passes(30)", Due.passes(x, 30), 2);
        Due.sizes(x, 5, 6);
        Due.is("digit(30, 0)", x.digit(30, 0), UNKNOWN);
        Due.is("digit(29, 2)", x.digit(29, 2), UNKNOWN);
        Due.is("passes(1)", Due.passes(x, 1), 0);
        Due.sizes(x);
        Due.is("passes(1001)", Due.passes(x, 1001), 4);
        Due.sizes(x, 4, 6, 6, 7);
        Due.is("digit(1000, 3)", x.digit(1000, 3), 6);
    }

    private static void withoutItems() {
        for (long points : new long[] {1, 2, 29, 31, 1001, MOST}) {
            PassSearch x = Due.planned(10, 30);
            x.volume(0, 9);
            Due.passes(x, points);
            hasNoItems(x);
        }
    }

    private static void samePlanWithoutItems() {
        PassSearch x = Due.planned(10, 30);
        x.volume(0, 9);
        Due.passes(x, 30);
        hasNoItems(x);
    }

    private static void fullPlanWithoutItems() {
        PassSearch x = Due.planned(10, 30);
        for (int k = 0; k < 4; k++) {
            x.volume(k, 1000);
        }
        Due.passes(x, 30);
        hasNoItems(x);
        Due.is("volume(0, 1000)", x.volume(0, 1000), 1000);
    }

    private static void hasNoItems(PassSearch x) {
        Due.is("volume(0, 0)", x.volume(0, 0), 0);
        Due.is("order(0)", x.order(0), UNKNOWN);
        Due.is("sort(0, 0)", x.sort(0, 0), UNKNOWN);
        Due.is("trays()", x.trays(), 0);
    }
}
