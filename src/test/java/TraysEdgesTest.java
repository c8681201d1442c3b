import java.util.List;

/** Promise 7, "trays": the edges that its sentence and the terms name, a test each. */
public final class TraysEdgesTest {
    private static final int STATE = PassSearch.STATE;
    private static final long MOST = 1L << 62;

    public static void main(String[] args) {
        Due.test("0 without items", TraysEdgesTest::withoutItems);
        Due.test("0 without passes", TraysEdgesTest::withoutPasses);
        Due.test("0 without items and passes", TraysEdgesTest::withoutBoth);
        Due.test("STATE without a plan", TraysEdgesTest::noPlan);
        Due.test("a tray that is just full, and one item more", TraysEdgesTest::fullTray);
        Due.test("a bin without items takes none", TraysEdgesTest::emptyBin);
        Due.test("items of several points in one bin share trays", TraysEdgesTest::sharedTrays);
        Due.test("all passes together", TraysEdgesTest::allPasses);
        Due.test("each bin with its own height", TraysEdgesTest::ownHeights);
        Due.test("with the heights as they are", TraysEdgesTest::heightsAsTheyAre);
        Due.test("the most there can be", TraysEdgesTest::most);
        Due.test("the call itself changes nothing", TraysEdgesTest::changesNothing);
        Due.end();
    }

    private static void withoutItems() {
        for (long points : new long[] {2, 30, 1001, MOST}) {
            PassSearch x = Due.planned(10, points);
            Due.is("trays() of a plan for " + points, x.trays(), 0);
            x.volume(1, 0);
            Due.is("trays() behind volume(1, 0)", x.trays(), 0);
        }
    }

    private static void withoutPasses() {
        PassSearch x = Due.planned(10, 1);
        for (int k = 0; k < 4; k++) {
            x.volume(0, 1000);
            Due.is("trays()", x.trays(), 0);
        }
        x.height(0, 1);
        Due.is("trays() with height 1", x.trays(), 0);
    }

    private static void withoutBoth() {
        Due.is("trays()", Due.planned(10, 1).trays(), 0);
    }

    private static void noPlan() {
        for (int bins : new int[] {-1, 0, 1, 2, 10, 65536}) {
            PassSearch x = new PassSearch(bins);
            Due.is(bins + " bins, trays()", x.trays(), STATE);
            x.height(0, 1);
            x.volume(0, 1);
            Due.passes(x, 0);
            Due.is(bins + " bins, trays() behind refused calls", x.trays(), STATE);
        }
    }

    private static void fullTray() {
        for (int height : new int[] {1, 2, 7, 999, 1000}) {
            PassSearch x = Due.planned(10, 10);
            x.height(3, height);
            x.volume(3, height - 1);
            Due.is("trays() of " + (height - 1) + " items, height " + height, x.trays(), height == 1 ? 0 : 1);
            x.volume(3, 1);
            Due.is("trays() of " + height + " items, height " + height, x.trays(), 1);
            x.volume(3, 1);
            Due.is("trays() of " + (height + 1) + " items, height " + height, x.trays(), 2);
            x.volume(3, height - 1);
            Due.is("trays() of twice " + height + " items", x.trays(), 2);
            x.volume(3, 1);
            Due.is("trays() of one more than twice " + height + " items", x.trays(), 3);
        }
    }

    private static void emptyBin() {
        PassSearch x = Due.planned(10, 10);
        x.volume(9, 1);
        for (int bin = 0; bin < 9; bin++) {
            x.height(bin, 1);
            x.volume(bin, 0);
        }
        Due.is("trays()", x.trays(), 1);
    }

    private static void sharedTrays() {
        // the points 3, 8 and 13 have digit 3 in pass 0, and 0, 1, 2 in pass 1
        PassSearch x = Due.planned(10, 30);
        x.height(3, 3);
        x.volume(3, 1);
        x.volume(8, 1);
        x.volume(13, 1);
        Due.is("trays()", x.trays(), 1 + 3);
        x.volume(3, 1);
        Due.is("trays() with one more", x.trays(), 2 + 3);
    }

    private static void allPasses() {
        PassSearch x = new PassSearch(2);
        for (int passes = 1; passes <= 62; passes++) {
            Due.passes(x, 1L << passes);
            x.volume((1L << passes) - 1, 1);
            Due.is("trays() of " + passes + " passes", x.trays(), passes);
        }
    }

    private static void ownHeights() {
        PassSearch x = Due.planned(3, 3);
        x.height(0, 1);
        x.height(1, 2);
        x.height(2, 3);
        for (int point = 0; point < 3; point++) {
            x.volume(point, 6);
        }
        Due.is("trays()", x.trays(), 6 + 3 + 2);
    }

    private static void heightsAsTheyAre() {
        PassSearch x = Due.planned(10, 10);
        x.volume(3, 10);
        int[] heights = {1, 2, 3, 4, 9, 10, 11, 100000};
        int[] due = {10, 5, 4, 3, 2, 1, 1, 1};
        for (int k = 0; k < heights.length; k++) {
            x.height(3, heights[k]);
            Due.is("trays() with height " + heights[k], x.trays(), due[k]);
        }
    }

    private static void most() {
        PassSearch x = Due.planned(2, MOST);
        x.height(0, 1);
        x.height(1, 1);
        for (int k = 0; k < 4; k++) {
            x.volume(MOST - 1, 1000);
        }
        Due.is("trays()", x.trays(), 4000 * 62);
    }

    private static void changesNothing() {
        PassSearch x = Due.planned(10, 30);
        x.volume(29, 2);
        x.volume(7, 3);
        List<Long> before = Seen.of(x, 10, 5);
        x.trays();
        Due.same("the state", Seen.of(x, 10, 5), before);
    }
}
