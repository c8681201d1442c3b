/** Promise 1, "A new object": the edges that its sentence names, a test each. */
public final class NewObjectEdgesTest {
    private static final int UNKNOWN = PassSearch.UNKNOWN;
    private static final int STATE = PassSearch.STATE;

    public static void main(String[] args) {
        Due.test("no bins, if the number is below 0", NewObjectEdgesTest::binsBelowZero);
        Due.test("no bins", NewObjectEdgesTest::noBins);
        Due.test("one bin stays one", NewObjectEdgesTest::oneBin);
        Due.test("two bins stay two", NewObjectEdgesTest::twoBins);
        Due.test("65535 bins stay so many", NewObjectEdgesTest::oneBinLessThanMost);
        Due.test("65536 bins stay so many", NewObjectEdgesTest::mostBins);
        Due.test("65536 bins, if the number is above", NewObjectEdgesTest::binsAboveMost);
        Due.test("no plan", NewObjectEdgesTest::noPlan);
        Due.test("every height is 1000 at first", NewObjectEdgesTest::firstHeights);
        Due.end();
    }

    private static void binsBelowZero() {
        for (int bins : new int[] {-1, -2, -65536, -65537, Integer.MIN_VALUE + 1, Integer.MIN_VALUE}) {
            hasNoBins(bins);
        }
    }

    private static void noBins() {
        hasNoBins(0);
    }

    private static void hasNoBins(int bins) {
        PassSearch x = new PassSearch(bins);
        Due.is(bins + " bins, height(0, 1)", x.height(0, 1), UNKNOWN);
        Due.is(bins + " bins, height(-1, 1)", x.height(-1, 1), UNKNOWN);
        Due.is(bins + " bins, passes(1)", Due.passes(x, 1), Due.ILLEGAL_ARGUMENT);
        Due.is(bins + " bins, least(1, 0)", x.least(1, 0), false);
    }

    private static void oneBin() {
        PassSearch x = new PassSearch(1);
        Due.is("height(0, 1)", x.height(0, 1), 1000);
        Due.is("height(1, 1)", x.height(1, 1), UNKNOWN);
        Due.is("passes(1)", Due.passes(x, 1), Due.ILLEGAL_ARGUMENT);
    }

    private static void twoBins() {
        PassSearch x = new PassSearch(2);
        Due.is("height(1, 1)", x.height(1, 1), 1000);
        Due.is("height(2, 1)", x.height(2, 1), UNKNOWN);
        Due.is("passes(2)", Due.passes(x, 2), 1);
        Due.is("passes(3)", Due.passes(x, 3), 2);
    }

    private static void oneBinLessThanMost() {
        PassSearch x = new PassSearch(65535);
        Due.is("height(65534, 1)", x.height(65534, 1), 1000);
        Due.is("height(65535, 1)", x.height(65535, 1), UNKNOWN);
        Due.is("passes(65535)", Due.passes(x, 65535), 1);
        Due.is("passes(65536)", Due.passes(x, 65536), 2);
    }

    private static void mostBins() {
        hasMostBins(65536);
    }

    private static void binsAboveMost() {
        for (int bins : new int[] {65537, 65538, 131072, Integer.MAX_VALUE - 1, Integer.MAX_VALUE}) {
            hasMostBins(bins);
        }
    }

    private static void hasMostBins(int bins) {
        PassSearch x = new PassSearch(bins);
        Due.is(bins + " bins, height(65535, 1)", x.height(65535, 1), 1000);
        Due.is(bins + " bins, height(65536, 1)", x.height(65536, 1), UNKNOWN);
        Due.is(bins + " bins, passes(65536)", Due.passes(x, 65536), 1);
        Due.is(bins + " bins, digits(0)", Due.digits(x, 0), 65536);
        Due.is(bins + " bins, passes(65537)", Due.passes(x, 65537), 2);
        Due.is(bins + " bins, least(65537, 2)", x.least(65537, 2), true);
    }

    private static void noPlan() {
        for (int bins : new int[] {Integer.MIN_VALUE, -1, 0, 1, 2, 10, 65536, 65537, Integer.MAX_VALUE}) {
            PassSearch x = new PassSearch(bins);
            Due.is(bins + " bins, digit(0, 0)", x.digit(0, 0), STATE);
            Due.is(bins + " bins, volume(0, 0)", x.volume(0, 0), STATE);
            Due.is(bins + " bins, trays()", x.trays(), STATE);
            Due.is(bins + " bins, sort(0, 0)", x.sort(0, 0), STATE);
            Due.is(bins + " bins, order(0)", x.order(0), STATE);
            Due.is(bins + " bins, digits(0)", Due.digits(x, 0), Due.ARRAY_INDEX);
        }
    }

    private static void firstHeights() {
        PassSearch x = new PassSearch(10);
        for (int bin = 0; bin < 10; bin++) {
            Due.is("height(" + bin + ", 7)", x.height(bin, 7), 1000);
        }
    }
}
