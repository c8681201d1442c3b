/** Each promise of the document, a method each: ordinary and wrong inputs; the EdgesTests go through the edges. */
public final class PromisesTest {
    private static final int UNKNOWN = PassSearch.UNKNOWN;
    private static final int OUTSIDE = PassSearch.OUTSIDE;
    private static final int STATE = PassSearch.STATE;
    private static final int ROOM = PassSearch.ROOM;
    private static final long MOST = 1L << 62;

    public static void main(String[] args) {
        constants();
        newObject();
        passes();
        sizes();
        digit();
        best();
        volume();
        height();
        trays();
        sort();
        order();
        digits();
        least();
        refusalsChangeNothing();
        allCallsOfAnObject();
        Due.end();
    }

    private static void constants() {
        Due.is("UNKNOWN", PassSearch.UNKNOWN, -1);
        Due.is("OUTSIDE", PassSearch.OUTSIDE, -2);
        Due.is("STATE", PassSearch.STATE, -3);
        Due.is("ROOM", PassSearch.ROOM, -4);
    }

    private static void newObject() {
        int[] asked = {Integer.MIN_VALUE, -1, 0, 1, 2, 10, 65535, 65536, 65537, Integer.MAX_VALUE};
        int[] made = {0, 0, 0, 1, 2, 10, 65535, 65536, 65536, 65536};
        for (int k = 0; k < asked.length; k++) {
            PassSearch x = new PassSearch(asked[k]);
            Due.is("new trays()", x.trays(), STATE);
            Due.is("new order(0)", x.order(0), STATE);
            Due.is("new digits(0)", Due.digits(x, 0), Due.ARRAY_INDEX);
            Due.is("height of the bin behind the last of " + asked[k], x.height(made[k], 1), UNKNOWN);
            Due.is("height of the last bin of " + asked[k], x.height(made[k] - 1, 1), made[k] == 0 ? UNKNOWN : 1000);
            Due.is("passes(65536) with " + asked[k], Due.passes(x, 65536) == Due.ILLEGAL_ARGUMENT, made[k] < 2);
        }
        PassSearch most = new PassSearch(65537);
        Due.is("65536 bins do 65536 points", Due.passes(most, 65536), 1);
        Due.is("65536 bins do 65537 points", Due.passes(most, 65537), 2);
    }

    private static void passes() {
        PassSearch x = new PassSearch(10);
        Due.is("passes(1)", Due.passes(x, 1), 0);
        Due.is("passes(2)", Due.passes(x, 2), 1);
        Due.is("passes(10)", Due.passes(x, 10), 1);
        Due.is("passes(11)", Due.passes(x, 11), 2);
        Due.is("passes(2^62)", Due.passes(x, MOST), 19);
        long[] outside = {0, -1, Long.MIN_VALUE, MOST + 1, Long.MAX_VALUE};
        for (long points : outside) {
            Due.is("passes(" + points + ")", Due.passes(x, points), OUTSIDE);
            Due.is("the plan before stays", x.digit(MOST - 1, 18) >= 0, true);
        }
        Due.is("2 bins do 2^62", Due.passes(new PassSearch(2), MOST), 62);
        Due.is("65536 bins do 2^62", Due.passes(new PassSearch(65536), MOST), 4);
        for (int bins = -1; bins < 2; bins++) {
            PassSearch few = new PassSearch(bins);
            Due.is("few bins, 1 point", Due.passes(few, 1), Due.ILLEGAL_ARGUMENT);
            Due.is("few bins, 0 points", Due.passes(few, 0), Due.ILLEGAL_ARGUMENT);
            Due.is("few bins, too many points", Due.passes(few, MOST + 1), Due.ILLEGAL_ARGUMENT);
            Due.is("few bins: no plan", few.trays(), STATE);
        }
        Due.is("passes(5)", Due.passes(x, 5), 1);
        Due.is("volume(1, 7)", x.volume(1, 7), 7);
        Due.is("passes(5) again", Due.passes(x, 5), 1);
        Due.is("a new plan is without items", x.volume(1, 0), 0);
        Due.is("a new plan is without items", x.order(0), UNKNOWN);
    }

    private static void sizes() {
        PassSearch x = new PassSearch(10);
        Due.passes(x, 1);
        Due.sizes(x);
        Due.passes(x, 2);
        Due.sizes(x, 2);
        Due.passes(x, 7);
        Due.sizes(x, 7);
        Due.passes(x, 1000);
        Due.sizes(x, 10, 10, 10);
        Due.passes(x, 999);
        Due.sizes(x, 10, 10, 10);
        Due.passes(x, 1001);
        Due.sizes(x, 4, 6, 6, 7);
        Due.passes(x, 30);
        Due.sizes(x, 5, 6);
        // 4 * 6 * 9 = 216 = 6 * 6 * 6 has the greater sum; 5 * 6 * 7 = 210 has the same
        Due.passes(x, 210);
        Due.sizes(x, 5, 6, 7);
        Due.passes(x, 211);
        Due.sizes(x, 6, 6, 6);
        // the bins are the bound of a size: with more bins it would be 7, 10
        PassSearch nine = new PassSearch(9);
        Due.passes(nine, 70);
        Due.sizes(nine, 8, 9);
        Due.passes(x, 70);
        Due.sizes(x, 7, 10);
        PassSearch two = new PassSearch(2);
        Due.passes(two, 5);
        Due.sizes(two, 2, 2, 2);
    }

    private static void digit() {
        PassSearch x = new PassSearch(10);
        Due.is("digit(0, 0) without a plan", x.digit(0, 0), STATE);
        Due.is("digit(max, max) without a plan", x.digit(Long.MAX_VALUE, Integer.MAX_VALUE), STATE);
        Due.is("digit(-1, 0) without a plan", x.digit(-1, 0), UNKNOWN);
        Due.is("digit(0, -1) without a plan", x.digit(0, -1), UNKNOWN);
        Due.passes(x, 1001);
        // 1000 = 0 + 4 * (4 + 6 * (5 + 6 * 6))
        int[] due = {0, 4, 5, 6};
        for (int pass = 0; pass < 4; pass++) {
            Due.is("digit(1000, " + pass + ")", x.digit(1000, pass), due[pass]);
            Due.is("digit(0, " + pass + ")", x.digit(0, pass), 0);
        }
        Due.is("digit(1001, 0): a point of the sizes, not of the plan", x.digit(1001, 0), UNKNOWN);
        Due.is("digit(-1, 0)", x.digit(-1, 0), UNKNOWN);
        Due.is("digit(0, 4)", x.digit(0, 4), UNKNOWN);
        Due.is("digit(0, -1)", x.digit(0, -1), UNKNOWN);
        Due.passes(x, 1);
        Due.is("digit(0, 0) without a pass", x.digit(0, 0), UNKNOWN);
        PassSearch two = new PassSearch(2);
        Due.passes(two, MOST);
        for (int pass = 0; pass < 62; pass++) {
            Due.is("digit(2^62 - 1, " + pass + ")", two.digit(MOST - 1, pass), 1);
        }
        PassSearch few = new PassSearch(0);
        Due.is("digit(0, 0) without bins", few.digit(0, 0), STATE);
    }

    private static void best() {
        PassSearch x = new PassSearch(0);
        Due.is("best(1, 1)", x.best(1, 1), 2);
        Due.is("best(1, 62)", x.best(1, 62), 2);
        Due.is("best(1000, 3)", x.best(1000, 3), 10);
        Due.is("best(1001, 3)", x.best(1001, 3), 11);
        Due.is("best(2^31 - 1, 1)", x.best(Integer.MAX_VALUE, 1), Integer.MAX_VALUE);
        Due.is("best(2^31, 1)", x.best(1L << 31, 1), OUTSIDE);
        Due.is("best((2^31 - 1)^2, 2)", x.best((long) Integer.MAX_VALUE * Integer.MAX_VALUE, 2), Integer.MAX_VALUE);
        Due.is("best((2^31 - 1)^2 + 1, 2)", x.best((long) Integer.MAX_VALUE * Integer.MAX_VALUE + 1, 2), OUTSIDE);
        Due.is("best(2^62, 1)", x.best(MOST, 1), OUTSIDE);
        Due.is("best(2^62, 2)", x.best(MOST, 2), OUTSIDE);
        Due.is("best(2^62, 3)", x.best(MOST, 3), 1664511);
        Due.is("best(2^62, 31)", x.best(MOST, 31), 4);
        Due.is("best(2^62, 61)", x.best(MOST, 61), 3);
        Due.is("best(2^62, 62)", x.best(MOST, 62), 2);
        Due.is("best(5, 0)", x.best(5, 0), OUTSIDE);
        Due.is("best(1, 0)", x.best(1, 0), OUTSIDE);
        Due.is("best(5, -1)", x.best(5, -1), OUTSIDE);
        Due.is("best(5, 63)", x.best(5, 63), OUTSIDE);
        Due.is("best(0, 1)", x.best(0, 1), OUTSIDE);
        Due.is("best(-5, 1)", x.best(-5, 1), OUTSIDE);
        Due.is("best(2^62 + 1, 62)", x.best(MOST + 1, 62), OUTSIDE);
        Due.is("best makes no plan", x.trays(), STATE);
    }

    private static void volume() {
        PassSearch x = new PassSearch(10);
        Due.is("volume(0, 1) without a plan", x.volume(0, 1), STATE);
        Due.is("volume(-1, -1) without a plan", x.volume(-1, -1), UNKNOWN);
        Due.is("volume(0, -1) without a plan", x.volume(0, -1), OUTSIDE);
        Due.is("volume(0, 1001) without a plan", x.volume(0, 1001), OUTSIDE);
        Due.passes(x, 30);
        Due.is("volume(0, 0)", x.volume(0, 0), 0);
        Due.is("volume(0, 3)", x.volume(0, 3), 3);
        Due.is("volume(0, 2)", x.volume(0, 2), 5);
        Due.is("volume(29, 1000)", x.volume(29, 1000), 1005);
        Due.is("volume(30, 1)", x.volume(30, 1), UNKNOWN);
        Due.is("volume(30, 1001)", x.volume(30, 1001), UNKNOWN);
        Due.is("volume(-1, 1)", x.volume(-1, 1), UNKNOWN);
        Due.is("volume(1, -1)", x.volume(1, -1), OUTSIDE);
        Due.is("volume(1, 1001)", x.volume(1, 1001), OUTSIDE);
        x.volume(1, 1000);
        Due.is("volume(1, 1000)", x.volume(1, 1000), 3005);
        Due.is("volume(1, 996)", x.volume(1, 996), ROOM);
        Due.is("volume(1, 995)", x.volume(1, 995), 4000);
        Due.is("volume(1, 0)", x.volume(1, 0), 4000);
        Due.is("volume(1, 1)", x.volume(1, 1), ROOM);
        Due.is("volume(1, 1001), full", x.volume(1, 1001), OUTSIDE);
        Due.is("volume(30, 1), full", x.volume(30, 1), UNKNOWN);
    }

    private static void height() {
        PassSearch x = new PassSearch(10);
        Due.is("height(9, 1)", x.height(9, 1), 1000);
        Due.is("height(9, 100000)", x.height(9, 100000), 1);
        Due.is("height(9, 5)", x.height(9, 5), 100000);
        Due.is("height(8, 1000)", x.height(8, 1000), 1000);
        Due.is("height(9, 0)", x.height(9, 0), OUTSIDE);
        Due.is("height(9, -1)", x.height(9, -1), OUTSIDE);
        Due.is("height(9, 100001)", x.height(9, 100001), OUTSIDE);
        Due.is("height(10, 0)", x.height(10, 0), UNKNOWN);
        Due.is("height(-1, 1)", x.height(-1, 1), UNKNOWN);
        Due.passes(x, 2);
        Due.is("a bin that is not in the plan, of the plan before", x.height(9, 6), 5);
        Due.is("height(1, 2)", x.height(1, 2), 1000);
        x.volume(1, 5);
        Due.is("trays() by the height", x.trays(), 3);
        Due.passes(x, 2);
        x.volume(1, 4);
        Due.is("trays() in a later plan", x.trays(), 2);
        PassSearch wide = new PassSearch(65536);
        for (int k = 0; k < 256; k++) {
            Due.is("height of bin " + 256 * k, wide.height(256 * k, k + 1), 1000);
        }
        for (int k = 0; k < 256; k++) {
            Due.is("height of bin " + 256 * k + " again", wide.height(256 * k, 1), k + 1);
        }
    }

    private static void trays() {
        PassSearch x = new PassSearch(3);
        Due.is("trays() without a plan", x.trays(), STATE);
        Due.passes(x, 1);
        Due.is("trays() without items and passes", x.trays(), 0);
        x.volume(0, 1000);
        Due.is("trays() without passes", x.trays(), 0);
        Due.passes(x, 9);
        Due.is("trays() without items", x.trays(), 0);
        x.volume(4, 1000);
        Due.is("trays(): a full one a pass", x.trays(), 2);
        x.volume(7, 1);
        Due.is("trays(): bin 1 of pass 0 has one more, bin 2 of pass 1 is new", x.trays(), 4);
        x.height(1, 500);
        Due.is("trays() of bin 1: 3 and 2, of bin 2: 1", x.trays(), 6);
        x.height(0, 1);
        Due.is("a bin without items takes no tray", x.trays(), 6);
        x.height(1, 100000);
        Due.is("trays() with greater height", x.trays(), 3);
    }

    private static void sort() {
        PassSearch x = new PassSearch(3);
        Due.is("sort(0, 0) without a plan", x.sort(0, 0), STATE);
        Due.is("sort(-1, 0) without a plan", x.sort(-1, 0), UNKNOWN);
        Due.is("sort(0, -1) without a plan", x.sort(0, -1), UNKNOWN);
        Due.passes(x, 9);
        Due.is("sort(0, 0) without items", x.sort(0, 0), UNKNOWN);
        // points 8, 3, 3, 1, 8, 4: the digits in pass 0 are 2, 0, 0, 1, 2, 1, in pass 1 2, 1, 1, 0, 2, 1
        x.volume(8, 1);
        x.volume(3, 2);
        x.volume(1, 1);
        x.volume(8, 1);
        x.volume(4, 1);
        int[][] due = {{4, 0, 1, 2, 5, 3}, {4, 1, 2, 0, 5, 3}};
        for (int pass = 0; pass < 2; pass++) {
            for (int item = 0; item < 6; item++) {
                Due.is("sort(" + item + ", " + pass + ")", x.sort(item, pass), due[pass][item]);
            }
        }
        Due.is("sort(6, 0)", x.sort(6, 0), UNKNOWN);
        Due.is("sort(-1, 0)", x.sort(-1, 0), UNKNOWN);
        Due.is("sort(0, 2)", x.sort(0, 2), UNKNOWN);
        Due.is("sort(0, -1)", x.sort(0, -1), UNKNOWN);
        x.volume(0, 1);
        Due.is("an item more lies before", x.sort(0, 1), 5);
        Due.passes(x, 1);
        x.volume(0, 1);
        Due.is("sort(0, 0) without a pass", x.sort(0, 0), UNKNOWN);
    }

    private static void order() {
        PassSearch x = new PassSearch(3);
        Due.is("order(0) without a plan", x.order(0), STATE);
        Due.is("order(max) without a plan", x.order(Integer.MAX_VALUE), STATE);
        Due.is("order(-1) without a plan", x.order(-1), UNKNOWN);
        Due.passes(x, 9);
        Due.is("order(0) without items", x.order(0), UNKNOWN);
        x.volume(8, 1);
        x.volume(3, 2);
        x.volume(1, 1);
        x.volume(8, 1);
        x.volume(4, 1);
        int[] due = {3, 1, 2, 5, 0, 4};
        for (int place = 0; place < 6; place++) {
            Due.is("order(" + place + ")", x.order(place), due[place]);
        }
        Due.is("order(6)", x.order(6), UNKNOWN);
        Due.is("order(-1)", x.order(-1), UNKNOWN);
        Due.passes(x, 1);
        x.volume(0, 2);
        x.volume(0, 1);
        for (int place = 0; place < 3; place++) {
            Due.is("order(" + place + ") without a pass", x.order(place), place);
        }
        Due.is("order(3) without a pass", x.order(3), UNKNOWN);
    }

    private static void digits() {
        PassSearch x = new PassSearch(10);
        int[] none = {Integer.MIN_VALUE, -1, 0, 1, 61, 62, 63, Integer.MAX_VALUE};
        for (int i : none) {
            Due.is("digits(" + i + ") without a plan", Due.digits(x, i), Due.ARRAY_INDEX);
        }
        Due.passes(x, 1);
        for (int i : none) {
            Due.is("digits(" + i + ") without a pass", Due.digits(x, i), Due.ARRAY_INDEX);
        }
        Due.passes(x, 1001);
        Due.sizes(x, 4, 6, 6, 7);
        Due.is("digits(-1)", Due.digits(x, -1), Due.ARRAY_INDEX);
        Due.passes(x, 30);
        Due.sizes(x, 5, 6);
        PassSearch two = new PassSearch(2);
        Due.passes(two, MOST);
        Due.is("digits(61)", Due.digits(two, 61), 2);
        Due.is("digits(62)", Due.digits(two, 62), Due.ARRAY_INDEX);
    }

    private static void least() {
        PassSearch x = new PassSearch(10);
        Due.is("least(1, 0)", x.least(1, 0), true);
        Due.is("least(1, 1)", x.least(1, 1), false);
        Due.is("least(1000, 3)", x.least(1000, 3), true);
        Due.is("least(1000, 2)", x.least(1000, 2), false);
        Due.is("least(1000, 4)", x.least(1000, 4), false);
        Due.is("least(1001, 4)", x.least(1001, 4), true);
        Due.is("least(0, 0)", x.least(0, 0), false);
        Due.is("least(-1, 0)", x.least(-1, 0), false);
        Due.is("least(5, -1)", x.least(5, -1), false);
        Due.is("least(2^62, 19)", x.least(MOST, 19), true);
        Due.is("least(2^62 + 1, 19)", x.least(MOST + 1, 19), false);
        Due.is("least(2^62, 62) with 2 bins", new PassSearch(2).least(MOST, 62), true);
        Due.is("least(1, 0) with 1 bin", new PassSearch(1).least(1, 0), false);
        Due.is("least(1, 0) with 0 bins", new PassSearch(0).least(1, 0), false);
        Due.is("least makes no plan", x.trays(), STATE);
    }

    private static void refusalsChangeNothing() {
        PassSearch x = new PassSearch(10);
        Due.passes(x, 30);
        x.volume(29, 2);
        x.volume(7, 2);
        x.height(2, 1);
        Due.passes(x, 0);
        Due.digits(x, 2);
        x.volume(30, 1);
        x.volume(1, 1001);
        x.height(2, 0);
        x.height(10, 1);
        Due.is("volume(0, 0)", x.volume(0, 0), 4);
        Due.sizes(x, 5, 6);
        // 29 has the digits 4 and 5, 7 has 2 and 1
        Due.is("trays()", x.trays(), 5);
        Due.is("order(0)", x.order(0), 2);
        Due.is("height(2, 1)", x.height(2, 1), 1);
    }

    /** An object's 512 calls, all but a few of one kind, so that each brings something more to be kept. */
    private static void allCallsOfAnObject() {
        PassSearch x = new PassSearch(65536);
        Due.passes(x, 65536);
        for (int k = 0; k < 508; k++) {
            Due.is("volume " + k, x.volume(65535 - 128 * k, 7), 7 * (k + 1));
        }
        Due.is("trays() of 508 bins", x.trays(), 508);
        Due.is("order(0)", x.order(0), 7 * 507);
        Due.is("sort(3, 0)", x.sort(3, 0), 7 * 507 + 3);
        PassSearch y = new PassSearch(65536);
        for (int bin = 0; bin < 508; bin++) {
            Due.is("height of bin " + bin, y.height(bin, bin + 1), 1000);
        }
        Due.passes(y, 508);
        y.volume(4, 11);
        Due.is("trays() of height 5", y.trays(), 3);
        Due.is("height(507, 1)", y.height(507, 1), 508);
    }
}
