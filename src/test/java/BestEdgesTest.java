import java.util.List;

/** Promise 4, "best": the edges that its sentence names, a test each. */
public final class BestEdgesTest {
    private static final int OUTSIDE = PassSearch.OUTSIDE;
    private static final int STATE = PassSearch.STATE;
    private static final long MOST = 1L << 62;
    private static final long GREATEST = Integer.MAX_VALUE;

    public static void main(String[] args) {
        Due.test("2 at least", BestEdgesTest::twoAtLeast);
        Due.test("the least number, at a power of it", BestEdgesTest::powers);
        Due.test("so many passes at most", BestEdgesTest::passesAtMost);
        Due.test("of any machine", BestEdgesTest::ofAnyMachine);
        Due.test("the plan is not looked at", BestEdgesTest::planNotLookedAt);
        Due.test("the plan is not changed", BestEdgesTest::planNotChanged);
        Due.test("OUTSIDE when points is below 1", BestEdgesTest::tooFewPoints);
        Due.test("OUTSIDE when points is above 2 to the 62", BestEdgesTest::tooManyPoints);
        Due.test("2 to the 62 points are not OUTSIDE", BestEdgesTest::mostPoints);
        Due.test("OUTSIDE when most is below 1", BestEdgesTest::mostTooSmall);
        Due.test("OUTSIDE when most is above 62", BestEdgesTest::mostTooLarge);
        Due.test("1 and 62 passes are not OUTSIDE", BestEdgesTest::leastAndGreatestMost);
        Due.test("OUTSIDE when it would be more than 2 to the 31 less 1", BestEdgesTest::tooManyBins);
        Due.test("2 to the 31 less 1 is not OUTSIDE", BestEdgesTest::greatestNumberOfBins);
        Due.end();
    }

    private static void twoAtLeast() {
        PassSearch x = new PassSearch(10);
        for (int most : new int[] {1, 2, 3, 61, 62}) {
            Due.is("best(1, " + most + ")", x.best(1, most), 2);
            Due.is("best(2, " + most + ")", x.best(2, most), 2);
        }
        Due.is("best(3, 1)", x.best(3, 1), 3);
    }

    private static void powers() {
        PassSearch x = new PassSearch(10);
        for (int base : new int[] {2, 3, 10, 1000, 65536, 2097151}) {
            long power = base;
            for (int most = 1; power <= MOST / base; most++) {
                Due.is("best(" + power + ", " + most + ")", x.best(power, most), base);
                Due.is("best(" + power + " + 1, " + most + ")", x.best(power + 1, most), base + 1);
                power *= base;
            }
        }
    }

    private static void passesAtMost() {
        PassSearch x = new PassSearch(10);
        Due.is("best(8, 3)", x.best(8, 3), 2);
        Due.is("best(8, 4)", x.best(8, 4), 2);
        Due.is("best(8, 2)", x.best(8, 2), 3);
        Due.is("best(9, 3)", x.best(9, 3), 3);
        Due.is("best(9, 4)", x.best(9, 4), 2);
    }

    private static void ofAnyMachine() {
        for (int bins : new int[] {-1, 0, 1, 2, 10, 65536}) {
            PassSearch x = new PassSearch(bins);
            Due.is(bins + " bins, best(1000, 3)", x.best(1000, 3), 10);
            Due.is(bins + " bins, best(65537, 1)", x.best(65537, 1), 65537);
            Due.is(bins + " bins, best(5, 62)", x.best(5, 62), 2);
        }
    }

    private static void planNotLookedAt() {
        PassSearch x = new PassSearch(10);
        Due.is("best(1000, 3) without a plan", x.best(1000, 3), 10);
        for (long points : new long[] {1, 30, 1000, MOST}) {
            Due.passes(x, points);
            x.volume(0, 5);
            Due.is("best(1000, 3) with a plan for " + points, x.best(1000, 3), 10);
            Due.is("best(1001, 3) with a plan for " + points, x.best(1001, 3), 11);
        }
    }

    private static void planNotChanged() {
        PassSearch x = new PassSearch(10);
        x.best(1000, 3);
        Due.is("trays() without a plan", x.trays(), STATE);
        Due.passes(x, 30);
        x.volume(29, 2);
        x.volume(7, 3);
        List<Long> before = Seen.of(x, 10, 5);
        x.best(1000, 3);
        x.best(0, 3);
        Due.same("the state", Seen.of(x, 10, 5), before);
    }

    private static void tooFewPoints() {
        PassSearch x = new PassSearch(10);
        for (long points : new long[] {0, -1, -MOST, Long.MIN_VALUE}) {
            for (int most : new int[] {1, 2, 62}) {
                Due.is("best(" + points + ", " + most + ")", x.best(points, most), OUTSIDE);
            }
        }
    }

    private static void tooManyPoints() {
        PassSearch x = new PassSearch(10);
        for (long points : new long[] {MOST + 1, MOST + 2, Long.MAX_VALUE}) {
            for (int most : new int[] {3, 31, 61, 62}) {
                Due.is("best(" + points + ", " + most + ")", x.best(points, most), OUTSIDE);
            }
        }
    }

    private static void mostPoints() {
        PassSearch x = new PassSearch(10);
        Due.is("best(2^62, 62)", x.best(MOST, 62), 2);
        Due.is("best(2^62, 61)", x.best(MOST, 61), 3);
        Due.is("best(2^62, 31)", x.best(MOST, 31), 4);
        Due.is("best(2^62, 4)", x.best(MOST, 4), 46341);
        Due.is("best(2^62, 3)", x.best(MOST, 3), 1664511);
    }

    private static void mostTooSmall() {
        PassSearch x = new PassSearch(10);
        for (int most : new int[] {0, -1, Integer.MIN_VALUE}) {
            Due.is("best(1, " + most + ")", x.best(1, most), OUTSIDE);
            Due.is("best(5, " + most + ")", x.best(5, most), OUTSIDE);
        }
    }

    private static void mostTooLarge() {
        PassSearch x = new PassSearch(10);
        for (int most : new int[] {63, 64, Integer.MAX_VALUE}) {
            Due.is("best(1, " + most + ")", x.best(1, most), OUTSIDE);
            Due.is("best(5, " + most + ")", x.best(5, most), OUTSIDE);
        }
    }

    private static void leastAndGreatestMost() {
        PassSearch x = new PassSearch(10);
        Due.is("best(5, 1)", x.best(5, 1), 5);
        Due.is("best(5, 62)", x.best(5, 62), 2);
    }

    private static void tooManyBins() {
        PassSearch x = new PassSearch(10);
        Due.is("best(2^31, 1)", x.best(GREATEST + 1, 1), OUTSIDE);
        Due.is("best(2^32, 1)", x.best(1L << 32, 1), OUTSIDE);
        Due.is("best(2^32 + 5, 1)", x.best((1L << 32) + 5, 1), OUTSIDE);
        Due.is("best(2^62, 1)", x.best(MOST, 1), OUTSIDE);
        Due.is("best((2^31 - 1)^2 + 1, 2)", x.best(GREATEST * GREATEST + 1, 2), OUTSIDE);
        Due.is("best(2^62 - 1, 2)", x.best(MOST - 1, 2), OUTSIDE);
        Due.is("best(2^62, 2)", x.best(MOST, 2), OUTSIDE);
    }

    private static void greatestNumberOfBins() {
        PassSearch x = new PassSearch(10);
        Due.is("best(2^31 - 2, 1)", x.best(GREATEST - 1, 1), GREATEST - 1);
        Due.is("best(2^31 - 1, 1)", x.best(GREATEST, 1), GREATEST);
        Due.is("best((2^31 - 1)^2, 2)", x.best(GREATEST * GREATEST, 2), GREATEST);
        Due.is("best((2^31 - 2)^2 + 1, 2)", x.best((GREATEST - 1) * (GREATEST - 1) + 1, 2), GREATEST);
        Due.is("best((2^31 - 2)^2, 2)", x.best((GREATEST - 1) * (GREATEST - 1), 2), GREATEST - 1);
    }
}
