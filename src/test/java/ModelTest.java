import java.util.Random;

/** Runs of drawn calls (the same each time) on PassSearch and on the plain model, answer by answer. */
public final class ModelTest {
    private static final int[] BINS = {-3, 0, 1, 2, 2, 3, 3, 4, 5, 7, 10, 16, 31, 100, 1000, 46341, 65536, 70000};
    private static final long[] EDGES = {-1, 0, 1, 2, 3, 1L << 31, (1L << 31) - 1, 1L << 32, 1L << 48, (1L << 48) + 1,
        (1L << 62) - 1, 1L << 62, (1L << 62) + 1, Long.MAX_VALUE, Long.MIN_VALUE};

    private final Random random;
    private final PassSearch search;
    private final PlainModel model;
    private final int bins;
    private final String name;
    private int calls;

    private ModelTest(int run) {
        random = new Random(run);
        bins = BINS[run % BINS.length];
        search = new PassSearch(bins);
        model = new PlainModel(bins);
        name = "run " + run + " with " + bins + " bins: ";
    }

    public static void main(String[] args) {
        for (int run = 0; run < 72 * BINS.length; run++) {
            ModelTest test = new ModelTest(run);
            // some runs of all 512 calls, many short ones
            int most = run / BINS.length % 6 == 0 ? 512 : 120;
            while (test.calls < most) {
                test.step(most);
            }
        }
        Due.end();
    }

    private void step(int most) {
        calls++;
        int kind = random.nextInt(40);
        // without a plan most calls are refused, so one comes soon
        if (kind < 1 || model.pointCount() == 0 && random.nextInt(8) == 0) {
            passes(most);
        } else if (kind < 5) {
            digit();
        } else if (kind < 7) {
            best();
        } else if (kind < 18) {
            volume();
        } else if (kind < 24) {
            height();
        } else if (kind < 27) {
            Due.is(name + "trays()", search.trays(), model.trays());
        } else if (kind < 32) {
            sort();
        } else if (kind < 36) {
            int i = item();
            Due.is(name + "order(" + i + ")", search.order(i), model.order(i));
        } else if (kind < 38) {
            int i = pass();
            Due.is(name + "digits(" + i + ")", Due.digits(search, i), model.digits(i));
        } else {
            least();
        }
    }

    private void passes(int most) {
        long points = points();
        long passes = model.passes(points);
        Due.is(name + "passes(" + points + ")", Due.passes(search, points), passes);
        for (int i = 0; i <= passes && calls < most; i++) {
            calls++;
            Due.is(name + "passes(" + points + "), digits(" + i + ")", Due.digits(search, i), model.digits(i));
        }
    }

    private void digit() {
        long point = point();
        int pass = pass();
        Due.is(name + "digit(" + point + ", " + pass + ")", search.digit(point, pass), model.digit(point, pass));
    }

    private void best() {
        long points = points();
        int most = random.nextInt(65) - 1;
        Due.is(name + "best(" + points + ", " + most + ")", search.best(points, most), model.best(points, most));
    }

    private void volume() {
        long point = point();
        int n = random.nextInt(8) == 0 ? random.nextInt(1004) - 1 : random.nextInt(6) - 1;
        Due.is(name + "volume(" + point + ", " + n + ")", search.volume(point, n), model.volume(point, n));
    }

    private void height() {
        int bin = random.nextInt(3) == 0 ? random.nextInt(4) - 1 : random.nextInt(Math.max(1, bins) + 2);
        int n = random.nextInt(8) == 0 ? 99990 + random.nextInt(20) : random.nextInt(9);
        Due.is(name + "height(" + bin + ", " + n + ")", search.height(bin, n), model.height(bin, n));
    }

    private void sort() {
        int item = item();
        int pass = pass();
        Due.is(name + "sort(" + item + ", " + pass + ")", search.sort(item, pass), model.sort(item, pass));
    }

    private void least() {
        long points = points();
        int passes = pass();
        Due.is(name + "least(" + points + ", " + passes + ")", search.least(points, passes) ? 1 : 0,
                model.least(points, passes));
    }

    private long points() {
        int kind = random.nextInt(8);
        if (kind == 0) {
            return EDGES[random.nextInt(EDGES.length)];
        }
        if (kind < 4) {
            return random.nextInt(kind * kind * 100) + 1;
        }
        return (random.nextLong() >>> 2 + random.nextInt(60)) + 1;
    }

    private long point() {
        long points = Math.max(1, model.pointCount());
        int kind = random.nextInt(12);
        if (kind == 0) {
            return EDGES[random.nextInt(EDGES.length)];
        }
        if (kind < 4) {
            return points - random.nextInt(4);
        }
        if (kind < 7) {
            return Math.min(points - 1, random.nextInt(20));
        }
        return Math.floorMod(random.nextLong(), points);
    }

    private int pass() {
        return random.nextInt(3) == 0 ? random.nextInt(64) - 1 : random.nextInt(5) - 1;
    }

    private int item() {
        return random.nextInt(model.itemCount() + 3) - 1;
    }
}
