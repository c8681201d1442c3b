import java.util.List;

/** Promise 6, "height": the edges that its sentence and the refusals name, a test each. */
public final class HeightEdgesTest {
    private static final int UNKNOWN = PassSearch.UNKNOWN;
    private static final int OUTSIDE = PassSearch.OUTSIDE;
    private static final int STATE = PassSearch.STATE;

    public static void main(String[] args) {
        Due.test("the height before", HeightEdgesTest::theOneBefore);
        Due.test("a bin's own height, no other's", HeightEdgesTest::ownHeight);
        Due.test("the first bin and the last", HeightEdgesTest::firstAndLastBin);
        Due.test("a bin of the machine that is not in the plan", HeightEdgesTest::binNotInThePlan);
        Due.test("a plan without a pass has no bin", HeightEdgesTest::planWithoutPass);
        Due.test("without a plan too", HeightEdgesTest::noPlan);
        Due.test("with fewer than two bins too", HeightEdgesTest::fewBins);
        Due.test("from now on, for items that are there", HeightEdgesTest::fromNowOn);
        Due.test("also in later plans", HeightEdgesTest::laterPlans);
        Due.test("a refused plan leaves the heights", HeightEdgesTest::refusedPlan);
        Due.test("UNKNOWN: a bin below 0", HeightEdgesTest::binBelowZero);
        Due.test("UNKNOWN: a bin behind the last", HeightEdgesTest::binBehindTheLast);
        Due.test("OUTSIDE: n is below 1", HeightEdgesTest::nBelowOne);
        Due.test("OUTSIDE: n is above 100000", HeightEdgesTest::nAboveMost);
        Due.test("1 and 100000 are heights", HeightEdgesTest::leastAndGreatest);
        Due.test("UNKNOWN before OUTSIDE", HeightEdgesTest::unknownBeforeOutside);
        Due.test("a refused height changes nothing", HeightEdgesTest::refusedChangesNothing);
        Due.end();
    }

    private static void theOneBefore() {
        PassSearch x = new PassSearch(10);
        Due.is("height(3, 5)", x.height(3, 5), 1000);
        Due.is("height(3, 5)", x.height(3, 5), 5);
        Due.is("height(3, 1000)", x.height(3, 1000), 5);
        Due.is("height(3, 6)", x.height(3, 6), 1000);
    }

    private static void ownHeight() {
        PassSearch x = new PassSearch(10);
        for (int bin = 0; bin < 10; bin++) {
            x.height(bin, bin + 1);
        }
        for (int bin = 0; bin < 10; bin++) {
            Due.is("height(" + bin + ", 1)", x.height(bin, 1), bin + 1);
        }
    }

    private static void firstAndLastBin() {
        for (int bins : new int[] {1, 2, 10, 65535, 65536}) {
            PassSearch x = new PassSearch(bins);
            Due.is(bins + " bins, height(last, 5)", x.height(bins - 1, 5), 1000);
            Due.is(bins + " bins, height(0, 6)", x.height(0, 6), bins == 1 ? 5 : 1000);
            Due.is(bins + " bins, height(last, 7)", x.height(bins - 1, 7), bins == 1 ? 6 : 5);
        }
    }

    private static void binNotInThePlan() {
        PassSearch x = Due.planned(10, 2);
        x.volume(1, 5);
        Due.is("height(2, 1)", x.height(2, 1), 1000);
        Due.is("height(9, 2)", x.height(9, 2), 1000);
        Due.is("trays() of the plan", x.trays(), 1);
        Due.passes(x, 10);
        x.volume(9, 5);
        Due.is("trays() of a plan that has the bin", x.trays(), 3);
        Due.is("height(9, 1)", x.height(9, 1), 2);
    }

    private static void planWithoutPass() {
        PassSearch x = Due.planned(10, 1);
        x.volume(0, 5);
        Due.is("height(0, 1)", x.height(0, 1), 1000);
        Due.is("trays()", x.trays(), 0);
        Due.is("height(0, 2)", x.height(0, 2), 1);
    }

    private static void noPlan() {
        PassSearch x = new PassSearch(10);
        Due.is("height(9, 5)", x.height(9, 5), 1000);
        Due.is("height(9, 6)", x.height(9, 6), 5);
        Due.is("height(10, 5)", x.height(10, 5), UNKNOWN);
        Due.is("height(-1, 5)", x.height(-1, 5), UNKNOWN);
        Due.is("height(9, 0)", x.height(9, 0), OUTSIDE);
        Due.is("trays()", x.trays(), STATE);
    }

    private static void fewBins() {
        PassSearch one = new PassSearch(1);
        Due.is("one bin, height(0, 5)", one.height(0, 5), 1000);
        Due.is("one bin, height(0, 6)", one.height(0, 6), 5);
        Due.is("one bin, height(1, 6)", one.height(1, 6), UNKNOWN);
        PassSearch none = new PassSearch(0);
        Due.is("no bins, height(0, 5)", none.height(0, 5), UNKNOWN);
    }

    private static void fromNowOn() {
        PassSearch x = Due.planned(10, 10);
        x.volume(3, 7);
        Due.is("trays() before", x.trays(), 1);
        x.height(3, 2);
        Due.is("trays() behind height(3, 2)", x.trays(), 4);
        x.height(3, 7);
        Due.is("trays() behind height(3, 7)", x.trays(), 1);
        x.height(3, 6);
        Due.is("trays() behind height(3, 6)", x.trays(), 2);
    }

    private static void laterPlans() {
        PassSearch x = Due.planned(10, 10);
        x.height(3, 2);
        for (long points : new long[] {4, 10, 1, 7}) {
            Due.passes(x, points);
            x.volume(points == 1 ? 0 : 3, 7);
            Due.is("trays() of a plan for " + points, x.trays(), points == 1 ? 0 : 4);
        }
        Due.is("height(3, 1)", x.height(3, 1), 2);
    }

    private static void refusedPlan() {
        PassSearch x = new PassSearch(10);
        x.height(3, 2);
        Due.passes(x, 0);
        Due.is("height(3, 1)", x.height(3, 1), 2);
    }

    private static void binBelowZero() {
        PassSearch x = new PassSearch(10);
        for (int bin : new int[] {-1, -10, Integer.MIN_VALUE}) {
            Due.is("height(" + bin + ", 5)", x.height(bin, 5), UNKNOWN);
        }
    }

    private static void binBehindTheLast() {
        PassSearch x = new PassSearch(10);
        for (int bin : new int[] {10, 11, 65535, 65536, Integer.MAX_VALUE}) {
            Due.is("height(" + bin + ", 5)", x.height(bin, 5), UNKNOWN);
        }
    }

    private static void nBelowOne() {
        PassSearch x = new PassSearch(10);
        for (int n : new int[] {0, -1, -1000, Integer.MIN_VALUE}) {
            Due.is("height(3, " + n + ")", x.height(3, n), OUTSIDE);
        }
    }

    private static void nAboveMost() {
        PassSearch x = new PassSearch(10);
        for (int n : new int[] {100001, 100002, Integer.MAX_VALUE}) {
            Due.is("height(3, " + n + ")", x.height(3, n), OUTSIDE);
        }
    }

    private static void leastAndGreatest() {
        PassSearch x = Due.planned(10, 10);
        x.volume(3, 1000);
        Due.is("height(3, 1)", x.height(3, 1), 1000);
        Due.is("trays() with height 1", x.trays(), 1000);
        Due.is("height(3, 100000)", x.height(3, 100000), 1);
        Due.is("trays() with height 100000", x.trays(), 1);
        Due.is("height(3, 99999)", x.height(3, 99999), 100000);
    }

    private static void unknownBeforeOutside() {
        PassSearch x = new PassSearch(10);
        Due.is("height(10, 0)", x.height(10, 0), UNKNOWN);
        Due.is("height(10, 100001)", x.height(10, 100001), UNKNOWN);
        Due.is("height(-1, 0)", x.height(-1, 0), UNKNOWN);
        Due.is("height(-1, 100001)", x.height(-1, 100001), UNKNOWN);
    }

    private static void refusedChangesNothing() {
        PassSearch x = Due.planned(10, 30);
        x.height(3, 2);
        x.volume(29, 2);
        x.volume(3, 3);
        List<Long> before = Seen.of(x, 10, 5);
        x.height(3, 0);
        x.height(3, 100001);
        x.height(-1, 5);
        x.height(10, 5);
        x.height(10, 0);
        Due.same("the state", Seen.of(x, 10, 5), before);
    }
}
