/** Promise 3, "digit": the edges that its sentence and the terms name, a test each. */
public final class DigitEdgesTest {
    private static final int UNKNOWN = PassSearch.UNKNOWN;
    private static final int STATE = PassSearch.STATE;
    private static final long MOST = 1L << 62;

    public static void main(String[] args) {
        Due.test("the first point and the last", DigitEdgesTest::firstAndLastPoint);
        Due.test("divided by the sizes before, cut, modulo the size", DigitEdgesTest::everyPoint);
        Due.test("the last of 2 to the 62 points", DigitEdgesTest::lastOfMostPoints);
        Due.test("UNKNOWN: a point below 0", DigitEdgesTest::pointBelowZero);
        Due.test("UNKNOWN: a point behind the last", DigitEdgesTest::pointBehindTheLast);
        Due.test("UNKNOWN: a point of the sizes' product, not of the plan", DigitEdgesTest::pointOfTheProduct);
        Due.test("UNKNOWN: a point whose lower half is one of the plan", DigitEdgesTest::pointOfLowerHalf);
        Due.test("UNKNOWN: a point of the plan before", DigitEdgesTest::pointOfThePlanBefore);
        Due.test("UNKNOWN: a pass below 0", DigitEdgesTest::passBelowZero);
        Due.test("UNKNOWN: a pass behind the last", DigitEdgesTest::passBehindTheLast);
        Due.test("UNKNOWN: a plan without a pass", DigitEdgesTest::planWithoutPass);
        Due.test("STATE: no plan, numbers from 0 on", DigitEdgesTest::noPlan);
        Due.test("UNKNOWN: no plan, a number below 0", DigitEdgesTest::noPlanBelowZero);
        Due.end();
    }

    private static void firstAndLastPoint() {
        // 1000 = 0 + 4 * (4 + 6 * (5 + 6 * 6))
        PassSearch x = Due.planned(10, 1001);
        int[] last = {0, 4, 5, 6};
        for (int pass = 0; pass < 4; pass++) {
            Due.is("digit(0, " + pass + ")", x.digit(0, pass), 0);
            Due.is("digit(1000, " + pass + ")", x.digit(1000, pass), last[pass]);
        }
    }

    private static void everyPoint() {
        PassSearch x = Due.planned(10, 30);
        for (int point = 0; point < 30; point++) {
            Due.is("digit(" + point + ", 0)", x.digit(point, 0), point % 5);
            Due.is("digit(" + point + ", 1)", x.digit(point, 1), point / 5);
        }
    }

    private static void lastOfMostPoints() {
        PassSearch two = Due.planned(2, MOST);
        for (int pass = 0; pass < 62; pass++) {
            Due.is("digit(2^62 - 1, " + pass + ")", two.digit(MOST - 1, pass), 1);
            Due.is("digit(2^" + pass + ", " + pass + ")", two.digit(1L << pass, pass), 1);
            Due.is("digit(2^" + pass + " - 1, " + pass + ")", two.digit((1L << pass) - 1, pass), 0);
        }
        Due.is("digit(2^62, 0)", two.digit(MOST, 0), UNKNOWN);
        Due.is("digit(0, 62)", two.digit(0, 62), UNKNOWN);
    }

    private static void pointBelowZero() {
        PassSearch x = Due.planned(10, 30);
        for (long point : new long[] {-1, -30, -MOST, Long.MIN_VALUE}) {
            Due.is("digit(" + point + ", 0)", x.digit(point, 0), UNKNOWN);
        }
    }

    private static void pointBehindTheLast() {
        PassSearch x = Due.planned(10, 30);
        for (long point : new long[] {30, 31, MOST, Long.MAX_VALUE}) {
            Due.is("digit(" + point + ", 0)", x.digit(point, 0), UNKNOWN);
        }
        PassSearch one = Due.planned(10, 1);
        Due.is("digit(1, 0)", one.digit(1, 0), UNKNOWN);
    }

    private static void pointOfTheProduct() {
        PassSearch x = Due.planned(10, 1001);
        for (long point = 1001; point < 1008; point++) {
            Due.is("digit(" + point + ", 0)", x.digit(point, 0), UNKNOWN);
        }
    }

    private static void pointOfLowerHalf() {
        PassSearch x = Due.planned(10, 30);
        Due.is("digit(2^32, 0)", x.digit(1L << 32, 0), UNKNOWN);
        Due.is("digit(2^32 + 29, 1)", x.digit((1L << 32) + 29, 1), UNKNOWN);
    }

    private static void pointOfThePlanBefore() {
        PassSearch x = Due.planned(10, 100);
        Due.passes(x, 30);
        Due.is("digit(30, 0)", x.digit(30, 0), UNKNOWN);
        Due.is("digit(99, 0)", x.digit(99, 0), UNKNOWN);
    }

    private static void passBelowZero() {
        PassSearch x = Due.planned(10, 30);
        for (int pass : new int[] {-1, -2, Integer.MIN_VALUE}) {
            Due.is("digit(0, " + pass + ")", x.digit(0, pass), UNKNOWN);
        }
    }

    private static void passBehindTheLast() {
        PassSearch x = Due.planned(10, 1001);
        Due.passes(x, 30);
        for (int pass : new int[] {2, 3, 61, 62, 63, Integer.MAX_VALUE}) {
            Due.is("digit(0, " + pass + ")", x.digit(0, pass), UNKNOWN);
        }
    }

    private static void planWithoutPass() {
        PassSearch x = Due.planned(10, 1);
        for (int pass : new int[] {-1, 0, 1}) {
            Due.is("digit(0, " + pass + ")", x.digit(0, pass), UNKNOWN);
        }
    }

    private static void noPlan() {
        for (int bins : new int[] {0, 1, 10}) {
            PassSearch x = new PassSearch(bins);
            for (long point : new long[] {0, 1, MOST, Long.MAX_VALUE}) {
                for (int pass : new int[] {0, 1, 62, Integer.MAX_VALUE}) {
                    Due.is("digit(" + point + ", " + pass + ")", x.digit(point, pass), STATE);
                }
            }
        }
    }

    private static void noPlanBelowZero() {
        PassSearch x = new PassSearch(10);
        Due.is("digit(-1, 0)", x.digit(-1, 0), UNKNOWN);
        Due.is("digit(0, -1)", x.digit(0, -1), UNKNOWN);
        Due.is("digit(-1, -1)", x.digit(-1, -1), UNKNOWN);
        Due.is("digit(min, 0)", x.digit(Long.MIN_VALUE, 0), UNKNOWN);
        Due.is("digit(0, min)", x.digit(0, Integer.MIN_VALUE), UNKNOWN);
    }
}
