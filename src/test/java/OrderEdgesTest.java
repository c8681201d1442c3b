/** Promise 9, "order": the edges that its sentence names, a test each. */
public final class OrderEdgesTest {
    private static final int UNKNOWN = PassSearch.UNKNOWN;
    private static final int STATE = PassSearch.STATE;
    private static final long MOST = 1L << 62;

    public static void main(String[] args) {
        Due.test("places from 0 on, below how many there are", OrderEdgesTest::allPlaces);
        Due.test("the first place and the last of 4000", OrderEdgesTest::firstAndLastPlace);
        Due.test("behind the last pass", OrderEdgesTest::behindTheLastPass);
        Due.test("items of one point lie as they came", OrderEdgesTest::itemsOfOnePoint);
        Due.test("without a pass: as they came", OrderEdgesTest::withoutPass);
        Due.test("the ends of 2 to the 62 points", OrderEdgesTest::mostPoints);
        Due.test("UNKNOWN: a place below 0", OrderEdgesTest::placeBelowZero);
        Due.test("UNKNOWN: a place behind the last", OrderEdgesTest::placeBehindTheLast);
        Due.test("UNKNOWN: no items", OrderEdgesTest::noItems);
        Due.test("UNKNOWN: a place of the plan before", OrderEdgesTest::placeOfThePlanBefore);
        Due.test("UNKNOWN: without a pass, no such place", OrderEdgesTest::withoutPassNoPlace);
        Due.test("STATE: no plan, numbers from 0 on", OrderEdgesTest::noPlan);
        Due.test("UNKNOWN: no plan, a number below 0", OrderEdgesTest::noPlanBelowZero);
        Due.end();
    }

    private static void allPlaces() {
        PassSearch x = Due.planned(10, 10);
        for (int point = 9; point >= 0; point--) {
            x.volume(point, 1);
        }
        for (int place = 0; place < 10; place++) {
            Due.is("order(" + place + ")", x.order(place), 9 - place);
        }
        Due.is("order(10)", x.order(10), UNKNOWN);
    }

    private static void firstAndLastPlace() {
        PassSearch x = Due.planned(10, 10);
        for (int k = 0; k < 4; k++) {
            x.volume(9 - k, 1000);
        }
        Due.is("order(0)", x.order(0), 3000);
        Due.is("order(999)", x.order(999), 3999);
        Due.is("order(1000)", x.order(1000), 2000);
        Due.is("order(3000)", x.order(3000), 0);
        Due.is("order(3999)", x.order(3999), 999);
        Due.is("order(4000)", x.order(4000), UNKNOWN);
    }

    private static void behindTheLastPass() {
        // behind pass 0 of sizes 5 and 6 the items lie 0, 2, 1
        PassSearch x = Due.planned(10, 30);
        x.volume(25, 1);
        x.volume(4, 1);
        x.volume(6, 1);
        int[] due = {1, 2, 0};
        for (int place = 0; place < 3; place++) {
            Due.is("order(" + place + ")", x.order(place), due[place]);
        }
    }

    private static void itemsOfOnePoint() {
        PassSearch x = Due.planned(10, 30);
        x.volume(7, 2);
        x.volume(9, 1);
        x.volume(7, 2);
        x.volume(3, 1);
        x.volume(7, 1);
        int[] due = {5, 0, 1, 3, 4, 6, 2};
        for (int place = 0; place < 7; place++) {
            Due.is("order(" + place + ")", x.order(place), due[place]);
        }
    }

    private static void withoutPass() {
        PassSearch x = Due.planned(10, 1);
        x.volume(0, 2);
        x.volume(0, 0);
        x.volume(0, 3);
        for (int place = 0; place < 5; place++) {
            Due.is("order(" + place + ")", x.order(place), place);
        }
    }

    private static void mostPoints() {
        PassSearch x = Due.planned(2, MOST);
        x.volume(MOST - 1, 1);
        x.volume(MOST / 2, 1);
        x.volume(0, 1);
        x.volume(MOST / 2 - 1, 1);
        int[] due = {2, 3, 1, 0};
        for (int place = 0; place < 4; place++) {
            Due.is("order(" + place + ")", x.order(place), due[place]);
        }
    }

    private static void placeBelowZero() {
        PassSearch x = Due.planned(10, 30);
        x.volume(7, 3);
        for (int place : new int[] {-1, -3, Integer.MIN_VALUE}) {
            Due.is("order(" + place + ")", x.order(place), UNKNOWN);
        }
    }

    private static void placeBehindTheLast() {
        PassSearch x = Due.planned(10, 30);
        x.volume(7, 3);
        for (int place : new int[] {3, 4, 3999, 4000, Integer.MAX_VALUE}) {
            Due.is("order(" + place + ")", x.order(place), UNKNOWN);
        }
        x.volume(6, 1);
        Due.is("order(3) behind volume(6, 1)", x.order(3), 2);
    }

    private static void noItems() {
        PassSearch x = Due.planned(10, 30);
        Due.is("order(0)", x.order(0), UNKNOWN);
        x.volume(7, 0);
        Due.is("order(0) behind volume(7, 0)", x.order(0), UNKNOWN);
    }

    private static void placeOfThePlanBefore() {
        PassSearch x = Due.planned(10, 30);
        x.volume(7, 3);
        Due.passes(x, 30);
        Due.is("order(0)", x.order(0), UNKNOWN);
        x.volume(7, 1);
        Due.is("order(0) behind volume(7, 1)", x.order(0), 0);
        Due.is("order(1) behind volume(7, 1)", x.order(1), UNKNOWN);
    }

    private static void withoutPassNoPlace() {
        PassSearch x = Due.planned(10, 1);
        Due.is("order(0) without items", x.order(0), UNKNOWN);
        x.volume(0, 2);
        Due.is("order(2)", x.order(2), UNKNOWN);
        Due.is("order(-1)", x.order(-1), UNKNOWN);
    }

    private static void noPlan() {
        for (int bins : new int[] {0, 1, 10}) {
            PassSearch x = new PassSearch(bins);
            for (int place : new int[] {0, 1, 3999, 4000, Integer.MAX_VALUE}) {
                Due.is(bins + " bins, order(" + place + ")", x.order(place), STATE);
            }
        }
    }

    private static void noPlanBelowZero() {
        PassSearch x = new PassSearch(10);
        Due.is("order(-1)", x.order(-1), UNKNOWN);
        Due.is("order(min)", x.order(Integer.MIN_VALUE), UNKNOWN);
    }
}
