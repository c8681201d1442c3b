import java.util.Arrays;
import java.util.List;

/** The sentences under "Terms" and "What it is" that name an edge, a test each. */
public final class TermsEdgesTest {
    private static final int UNKNOWN = PassSearch.UNKNOWN;
    private static final int OUTSIDE = PassSearch.OUTSIDE;
    private static final int STATE = PassSearch.STATE;
    private static final int ROOM = PassSearch.ROOM;
    private static final long MOST = 1L << 62;

    public static void main(String[] args) {
        Due.test("the product of all sizes is not below the points", TermsEdgesTest::productNotBelow);
        Due.test("the sum of the sizes is the least", TermsEdgesTest::leastSum);
        Due.test("of several rows of sizes the least one", TermsEdgesTest::leastRow);
        Due.test("a size is 2 at least", TermsEdgesTest::sizeTwoAtLeast);
        Due.test("a size is as many as the bins at most", TermsEdgesTest::sizeBinsAtMost);
        Due.test("sizes of 2 to the 62 points", TermsEdgesTest::sizesOfMostPoints);
        Due.test("refused calls without a plan change nothing", TermsEdgesTest::refusedWithoutPlan);
        Due.test("refused calls with a plan change nothing", TermsEdgesTest::refusedWithPlan);
        Due.test("refused calls of a full plan change nothing", TermsEdgesTest::refusedWhenFull);
        Due.test("refused calls with fewer than two bins change nothing", TermsEdgesTest::refusedWithFewBins);
        Due.test("512 calls: plans", TermsEdgesTest::callsOfPlans);
        Due.test("512 calls: items of a plan, and their places", TermsEdgesTest::callsOfItems);
        Due.test("512 calls: items of 62 passes, and their trays", TermsEdgesTest::callsOfItemsOfMostPasses);
        Due.test("512 calls: heights", TermsEdgesTest::callsOfHeights);
        Due.test("512 calls: heights, items and their trays", TermsEdgesTest::callsOfHeightsAndItems);
        Due.test("512 calls: refused ones and none that count less", TermsEdgesTest::callsRefused);
        Due.end();
    }

    private static void sizesAre(int bins, long points, int... due) {
        Due.sizes(Due.planned(bins, points), due);
    }

    private static void productNotBelow() {
        sizesAre(10, 29, 5, 6);
        sizesAre(10, 30, 5, 6);
        sizesAre(10, 31, 4, 8);
        sizesAre(10, 32, 4, 8);
        sizesAre(10, 33, 5, 7);
        sizesAre(10, 35, 5, 7);
        sizesAre(10, 36, 6, 6);
        sizesAre(10, 37, 5, 8);
        sizesAre(10, 40, 5, 8);
        sizesAre(10, 41, 6, 7);
    }

    private static void leastSum() {
        // 2 and 9 do for 17 too, and 2 and 7 for 13, with greater sums
        sizesAre(10, 17, 3, 6);
        sizesAre(10, 13, 3, 5);
        sizesAre(10, 11, 3, 4);
        sizesAre(10, 99, 10, 10);
    }

    private static void leastRow() {
        sizesAre(10, 1001, 4, 6, 6, 7);
        sizesAre(10, 210, 5, 6, 7);
        sizesAre(10, 211, 6, 6, 6);
        sizesAre(3, 10, 2, 2, 3);
        // 240 * 273 is 65520
        sizesAre(65536, 65537, 241, 272);
    }

    private static void sizeTwoAtLeast() {
        sizesAre(2, 3, 2, 2);
        sizesAre(2, 5, 2, 2, 2);
        sizesAre(3, 4, 2, 2);
        sizesAre(10, 2, 2);
    }

    private static void sizeBinsAtMost() {
        // with more bins 70 points have the sizes 7 and 10
        sizesAre(9, 70, 8, 9);
        sizesAre(10, 70, 7, 10);
        sizesAre(9, 81, 9, 9);
        sizesAre(65536, 65536, 65536);
        sizesAre(65536, 1L << 32, 65536, 65536);
        sizesAre(65536, 1L << 48, 65536, 65536, 65536);
    }

    private static void sizesOfMostPoints() {
        int[] twos = new int[62];
        int[] fours = new int[31];
        Arrays.fill(twos, 2);
        Arrays.fill(fours, 4);
        sizesAre(2, MOST, twos);
        sizesAre(65536, MOST, PlainSizes.of(MOST, 4, 65536));
        sizesAre(4, MOST, fours);
    }

    private static void refusedWithoutPlan() {
        PassSearch x = new PassSearch(10);
        x.height(3, 2);
        List<Long> before = Seen.of(x, 10, 2);
        refuse(x, 10);
        x.volume(0, 1);
        x.volume(0, 0);
        Due.same("the state", Seen.of(x, 10, 2), before);
        Due.passes(x, 30);
        Due.is("volume(0, 0) in the first plan", x.volume(0, 0), 0);
    }

    private static void refusedWithPlan() {
        PassSearch x = Due.planned(10, 30);
        x.height(2, 2);
        x.volume(29, 2);
        x.volume(7, 3);
        List<Long> before = Seen.of(x, 10, 5);
        refuse(x, 10);
        Due.same("the state", Seen.of(x, 10, 5), before);
    }

    private static void refusedWhenFull() {
        PassSearch x = Due.planned(10, 30);
        for (int k = 0; k < 4; k++) {
            x.volume(29 - k, 1000);
        }
        List<Long> before = Seen.of(x, 10, 3);
        Due.is("volume(0, 1)", x.volume(0, 1), ROOM);
        Due.is("volume(29, 1000)", x.volume(29, 1000), ROOM);
        refuse(x, 10);
        Due.same("the state", Seen.of(x, 10, 3), before);
        Due.is("order(3999)", x.order(3999), 999);
        Due.is("order(0)", x.order(0), 3000);
    }

    private static void refusedWithFewBins() {
        PassSearch x = new PassSearch(1);
        x.height(0, 2);
        List<Long> before = Seen.of(x, 1, 1);
        refuse(x, 1);
        Due.passes(x, 30);
        Due.same("the state", Seen.of(x, 1, 1), before);
    }

    /** Calls that are refused, or throw, in every state. */
    private static void refuse(PassSearch x, int bins) {
        Due.passes(x, 0);
        Due.passes(x, MOST + 1);
        x.digit(-1, 0);
        x.digit(0, -1);
        x.best(0, 1);
        x.best(1, 63);
        x.volume(-1, 1);
        x.volume(0, -1);
        x.volume(0, 1001);
        x.height(-1, 1);
        x.height(bins, 1);
        x.height(0, 0);
        x.height(2, 100001);
        x.sort(-1, 0);
        x.sort(0, -1);
        x.order(-1);
        Due.digits(x, -1);
        Due.digits(x, 62);
        x.least(0, 0);
    }

    private static void callsOfPlans() {
        PassSearch x = new PassSearch(10);
        for (int k = 0; k < 511; k++) {
            Due.passes(x, k % 2 == 0 ? 1001 : MOST);
        }
        Due.is("call 512, digits(3)", Due.digits(x, 3), 7);
    }

    private static void callsOfItems() {
        PassSearch x = Due.planned(65536, 65536);
        PassSearch y = Due.planned(65536, 65536);
        for (int k = 0; k < 510; k++) {
            Due.is("volume " + k, x.volume(65535 - 128 * k, 7), 7 * (k + 1));
            y.volume(65535 - 128 * k, 7);
        }
        Due.is("call 512, order(0)", x.order(0), 7 * 509);
        Due.is("call 512, sort(3, 0)", y.sort(3, 0), 7 * 509 + 3);
        PassSearch z = Due.planned(65536, 65536);
        for (int k = 0; k < 511; k++) {
            Due.is("volume " + k, z.volume(k, 1), k + 1);
        }
    }

    private static void callsOfItemsOfMostPasses() {
        PassSearch x = Due.planned(2, MOST);
        for (int k = 0; k < 510; k++) {
            x.volume(MOST - 1 - k, 7);
        }
        // bits 9 to 61 are 1 in all points; of the lower ones both 0 and 1 come; 7 * 510 items need 4 trays in one
        int due = 53 * 4;
        for (int bit = 0; bit < 9; bit++) {
            int ones = 0;
            for (int k = 0; k < 510; k++) {
                ones += (MOST - 1 - k >> bit & 1) == 1 ? 7 : 0;
            }
            due += (ones + 999) / 1000 + (7 * 510 - ones + 999) / 1000;
        }
        Due.is("call 512, trays()", x.trays(), due);
    }

    private static void callsOfHeights() {
        PassSearch x = new PassSearch(65536);
        for (int k = 0; k < 512; k++) {
            Due.is("height of bin " + 128 * k, x.height(128 * k, k + 1), 1000);
        }
        PassSearch y = new PassSearch(65536);
        for (int k = 0; k < 511; k++) {
            y.height(65535 - k, k + 1);
        }
        Due.is("call 512, height(65535 - 510, 1)", y.height(65535 - 510, 1), 511);
    }

    private static void callsOfHeightsAndItems() {
        PassSearch x = Due.planned(65536, 65536);
        int due = 0;
        for (int k = 0; k < 255; k++) {
            x.height(257 * k, k % 5 + 1);
            x.volume(257 * k, 11);
            due += (11 + k % 5) / (k % 5 + 1);
        }
        Due.is("call 512, trays()", x.trays(), due);
    }

    private static void callsRefused() {
        PassSearch x = Due.planned(10, 30);
        x.volume(29, 1);
        for (int k = 0; k < 127; k++) {
            Due.is("volume(30, 1)", x.volume(30, 1), UNKNOWN);
            Due.is("volume(1, 1001)", x.volume(1, 1001), OUTSIDE);
            Due.is("height(10, 1)", x.height(10, 1), UNKNOWN);
            Due.is("passes(0)", Due.passes(x, 0), OUTSIDE);
        }
        Due.is("call 511, volume(0, 1000)", x.volume(0, 1000), 1001);
        Due.is("call 512, order(1000)", x.order(1000), 0);
        PassSearch y = new PassSearch(10);
        for (int k = 0; k < 512; k++) {
            Due.is("volume(0, 1) without a plan", y.volume(0, 1), STATE);
        }
    }
}
