/** Promise 8, "sort": the edges that its sentence and the terms name, a test each. */
public final class SortEdgesTest {
    private static final int UNKNOWN = PassSearch.UNKNOWN;
    private static final int STATE = PassSearch.STATE;
    private static final long MOST = 1L << 62;

    public static void main(String[] args) {
        Due.test("the place from 0 on", SortEdgesTest::placesFromZero);
        Due.test("behind the passes 0 to it, not the later ones", SortEdgesTest::passesUpToIt);
        Due.test("each behind those that are in the bin", SortEdgesTest::sameBin);
        Due.test("the bins are emptied from bin 0 on", SortEdgesTest::fromBinZeroOn);
        Due.test("the first item and the last of 4000", SortEdgesTest::firstAndLastItem);
        Due.test("the last pass of 62", SortEdgesTest::lastPass);
        Due.test("of all items that came so far: a later one of a lower bin", SortEdgesTest::laterItemBefore);
        Due.test("of all items that came so far: a later one of the same bin", SortEdgesTest::laterItemOfTheBin);
        Due.test("of all items that came so far: a later one of a higher bin", SortEdgesTest::laterItemBehind);
        Due.test("UNKNOWN: an item below 0", SortEdgesTest::itemBelowZero);
        Due.test("UNKNOWN: an item that has not come", SortEdgesTest::itemNotCome);
        Due.test("UNKNOWN: no items", SortEdgesTest::noItems);
        Due.test("UNKNOWN: an item of the plan before", SortEdgesTest::itemOfThePlanBefore);
        Due.test("UNKNOWN: a pass below 0", SortEdgesTest::passBelowZero);
        Due.test("UNKNOWN: a pass behind the last", SortEdgesTest::passBehindTheLast);
        Due.test("UNKNOWN: a plan without a pass", SortEdgesTest::planWithoutPass);
        Due.test("STATE: no plan, numbers from 0 on", SortEdgesTest::noPlan);
        Due.test("UNKNOWN: no plan, a number below 0", SortEdgesTest::noPlanBelowZero);
        Due.end();
    }

    private static void placesFromZero() {
        PassSearch x = Due.planned(10, 10);
        x.volume(9, 1);
        Due.is("sort(0, 0) of one item", x.sort(0, 0), 0);
        x.volume(9, 2);
        for (int item = 0; item < 3; item++) {
            Due.is("sort(" + item + ", 0)", x.sort(item, 0), item);
        }
    }

    private static void passesUpToIt() {
        // the sizes are 5 and 6: 5 has the digits 0 and 1, 4 has 4 and 0
        PassSearch x = Due.planned(10, 30);
        x.volume(5, 1);
        x.volume(4, 1);
        Due.is("sort(0, 0)", x.sort(0, 0), 0);
        Due.is("sort(1, 0)", x.sort(1, 0), 1);
        Due.is("sort(0, 1)", x.sort(0, 1), 1);
        Due.is("sort(1, 1)", x.sort(1, 1), 0);
    }

    private static void sameBin() {
        // 3, 8 and 13 have the digit 3 in pass 0; the digits in pass 1 are 0, 1 and 2
        PassSearch x = Due.planned(10, 30);
        x.volume(13, 1);
        x.volume(3, 1);
        x.volume(8, 1);
        x.volume(13, 1);
        int[] behindLast = {2, 0, 1, 3};
        for (int item = 0; item < 4; item++) {
            Due.is("sort(" + item + ", 0)", x.sort(item, 0), item);
            Due.is("sort(" + item + ", 1)", x.sort(item, 1), behindLast[item]);
        }
    }

    private static void fromBinZeroOn() {
        PassSearch x = Due.planned(10, 10);
        for (int point = 9; point >= 0; point--) {
            x.volume(point, 1);
        }
        for (int item = 0; item < 10; item++) {
            Due.is("sort(" + item + ", 0)", x.sort(item, 0), 9 - item);
        }
    }

    private static void firstAndLastItem() {
        PassSearch x = Due.planned(10, 10);
        for (int k = 0; k < 4; k++) {
            x.volume(9 - k, 1000);
        }
        Due.is("sort(0, 0)", x.sort(0, 0), 3000);
        Due.is("sort(999, 0)", x.sort(999, 0), 3999);
        Due.is("sort(1000, 0)", x.sort(1000, 0), 2000);
        Due.is("sort(3000, 0)", x.sort(3000, 0), 0);
        Due.is("sort(3999, 0)", x.sort(3999, 0), 999);
        Due.is("sort(4000, 0)", x.sort(4000, 0), UNKNOWN);
    }

    private static void lastPass() {
        PassSearch x = Due.planned(2, MOST);
        x.volume(MOST - 1, 1);
        x.volume(MOST / 2, 1);
        x.volume(MOST / 2 - 1, 1);
        int[][] due = {{1, 0, 2}, {2, 1, 0}};
        for (int item = 0; item < 3; item++) {
            Due.is("sort(" + item + ", 60)", x.sort(item, 60), due[0][item]);
            Due.is("sort(" + item + ", 61)", x.sort(item, 61), due[1][item]);
        }
        Due.is("sort(0, 62)", x.sort(0, 62), UNKNOWN);
    }

    private static void laterItemBefore() {
        PassSearch x = Due.planned(10, 30);
        x.volume(14, 1);
        Due.is("sort(0, 0)", x.sort(0, 0), 0);
        x.volume(3, 2);
        Due.is("sort(0, 0) behind volume(3, 2)", x.sort(0, 0), 2);
        Due.is("sort(0, 1) behind volume(3, 2)", x.sort(0, 1), 2);
        Due.is("sort(2, 0)", x.sort(2, 0), 1);
    }

    private static void laterItemOfTheBin() {
        PassSearch x = Due.planned(10, 30);
        x.volume(14, 1);
        x.volume(14, 2);
        x.volume(19, 1);
        Due.is("sort(0, 0)", x.sort(0, 0), 0);
        Due.is("sort(2, 0)", x.sort(2, 0), 2);
        Due.is("sort(3, 0)", x.sort(3, 0), 3);
        x.volume(9, 1);
        Due.is("sort(0, 0) behind volume(9, 1)", x.sort(0, 0), 0);
        Due.is("sort(0, 1) behind volume(9, 1)", x.sort(0, 1), 1);
    }

    private static void laterItemBehind() {
        PassSearch x = Due.planned(10, 30);
        x.volume(12, 1);
        x.volume(24, 2);
        Due.is("sort(0, 0)", x.sort(0, 0), 0);
        Due.is("sort(0, 1)", x.sort(0, 1), 0);
        Due.is("sort(2, 1)", x.sort(2, 1), 2);
    }

    private static void itemBelowZero() {
        PassSearch x = Due.planned(10, 30);
        x.volume(7, 3);
        for (int item : new int[] {-1, -3, Integer.MIN_VALUE}) {
            Due.is("sort(" + item + ", 0)", x.sort(item, 0), UNKNOWN);
        }
    }

    private static void itemNotCome() {
        PassSearch x = Due.planned(10, 30);
        x.volume(7, 3);
        for (int item : new int[] {3, 4, 3999, 4000, Integer.MAX_VALUE}) {
            Due.is("sort(" + item + ", 0)", x.sort(item, 0), UNKNOWN);
        }
        x.volume(7, 1);
        Due.is("sort(3, 0) behind volume(7, 1)", x.sort(3, 0), 3);
    }

    private static void noItems() {
        PassSearch x = Due.planned(10, 30);
        Due.is("sort(0, 0)", x.sort(0, 0), UNKNOWN);
        x.volume(7, 0);
        Due.is("sort(0, 0) behind volume(7, 0)", x.sort(0, 0), UNKNOWN);
    }

    private static void itemOfThePlanBefore() {
        PassSearch x = Due.planned(10, 30);
        x.volume(7, 3);
        Due.passes(x, 30);
        Due.is("sort(0, 0)", x.sort(0, 0), UNKNOWN);
        x.volume(7, 1);
        Due.is("sort(0, 0) behind volume(7, 1)", x.sort(0, 0), 0);
        Due.is("sort(1, 0) behind volume(7, 1)", x.sort(1, 0), UNKNOWN);
    }

    private static void passBelowZero() {
        PassSearch x = Due.planned(10, 30);
        x.volume(7, 3);
        for (int pass : new int[] {-1, -2, Integer.MIN_VALUE}) {
            Due.is("sort(0, " + pass + ")", x.sort(0, pass), UNKNOWN);
        }
    }

    private static void passBehindTheLast() {
        PassSearch x = Due.planned(10, 1001);
        Due.passes(x, 30);
        x.volume(7, 3);
        for (int pass : new int[] {2, 3, 61, 62, 63, Integer.MAX_VALUE}) {
            Due.is("sort(0, " + pass + ")", x.sort(0, pass), UNKNOWN);
        }
    }

    private static void planWithoutPass() {
        PassSearch x = Due.planned(10, 1);
        x.volume(0, 3);
        for (int pass : new int[] {-1, 0, 1}) {
            Due.is("sort(0, " + pass + ")", x.sort(0, pass), UNKNOWN);
        }
    }

    private static void noPlan() {
        for (int bins : new int[] {0, 1, 10}) {
            PassSearch x = new PassSearch(bins);
            for (int item : new int[] {0, 1, 4000, Integer.MAX_VALUE}) {
                for (int pass : new int[] {0, 1, 62, Integer.MAX_VALUE}) {
                    Due.is("sort(" + item + ", " + pass + ")", x.sort(item, pass), STATE);
                }
            }
        }
    }

    private static void noPlanBelowZero() {
        PassSearch x = new PassSearch(10);
        Due.is("sort(-1, 0)", x.sort(-1, 0), UNKNOWN);
        Due.is("sort(0, -1)", x.sort(0, -1), UNKNOWN);
        Due.is("sort(-1, -1)", x.sort(-1, -1), UNKNOWN);
        Due.is("sort(min, 0)", x.sort(Integer.MIN_VALUE, 0), UNKNOWN);
        Due.is("sort(0, min)", x.sort(0, Integer.MIN_VALUE), UNKNOWN);
    }
}
