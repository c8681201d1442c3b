import java.math.BigInteger;
import java.util.Random;

/** The sizes of drawn plans (the same each time) of all widths, held against the words that define them, exactly. */
public final class WideSizesTest {
    private static final BigInteger MOST = BigInteger.ONE.shiftLeft(62);

    private final int bins;
    private final BigInteger points;
    private final String name;
    private final PassSearch search;
    private final int passes;
    private final int[] sizes;

    private WideSizesTest(int bins, BigInteger points) {
        this.bins = bins;
        this.points = points;
        name = bins + " bins, " + points + " points: ";
        search = new PassSearch(bins);
        passes = (int) Due.passes(search, points.longValue());
        sizes = new int[passes];
        for (int pass = 0; pass < passes; pass++) {
            sizes[pass] = (int) Due.digits(search, pass);
        }
    }

    public static void main(String[] args) {
        Random random = new Random(8);
        for (int k = 0; k < 20000; k++) {
            int bins = Math.min(65536, 2 + random.nextInt(1 << 1 + random.nextInt(16)));
            new WideSizesTest(bins, points(random, bins)).compare();
        }
        Due.end();
    }

    /** Half of them next to a product of like sizes, where one point more or less makes another row. */
    private static BigInteger points(Random random, int bins) {
        BigInteger points = BigInteger.valueOf(random.nextLong() >>> 2 + random.nextInt(61));
        if (random.nextBoolean()) {
            int greatest = 2 + random.nextInt(bins - 1);
            points = BigInteger.valueOf(random.nextInt(3) - 1);
            BigInteger product = BigInteger.ONE;
            for (int count = 1 + random.nextInt(8); count > 0; count--) {
                product = product.multiply(BigInteger.valueOf(Math.max(2, greatest - random.nextInt(4))));
            }
            points = points.add(product);
        }
        return points.max(BigInteger.ONE).min(MOST);
    }

    private void compare() {
        Due.is(name + "as many passes as are needed", canDo(passes, bins)
                && (passes == 0 || !canDo(passes - 1, bins)), true);
        BigInteger product = BigInteger.ONE;
        int sum = 0;
        for (int size : sizes) {
            Due.is(name + "the size " + size + " is 2 to the bins", size >= 2 && size <= bins, true);
            product = product.multiply(BigInteger.valueOf(size));
            sum += size;
        }
        Due.is(name + "the product is not below the points", product.compareTo(points) >= 0, true);
        Due.is(name + "no smaller sum does", reaches(BigInteger.ONE, sum - 1, passes), false);
        compareRow(sum);
        compareDigits(points.longValue() - 1);
        compareDigits(points.longValue() / 3);
    }

    private boolean canDo(int passes, int bins) {
        return BigInteger.valueOf(bins).pow(passes).compareTo(points) >= 0;
    }

    /** No pass can have a smaller size, with the sizes before it and the same sum. */
    private void compareRow(int sum) {
        BigInteger before = BigInteger.ONE;
        int left = sum;
        for (int pass = 0; pass < passes; pass++) {
            for (int size = Math.max(2, sizes[pass] - 20); size < sizes[pass]; size++) {
                Due.is(name + "the size " + size + " of pass " + pass + " does too",
                        reaches(before.multiply(BigInteger.valueOf(size)), left - size, passes - pass - 1), false);
            }
            before = before.multiply(BigInteger.valueOf(sizes[pass]));
            left -= sizes[pass];
        }
    }

    /** Whether so many sizes with this sum can bring a product up to the points: sizes as equal as can be do first. */
    private boolean reaches(BigInteger before, int sum, int count) {
        if (sum < 2 * count || sum > count * bins) {
            return false;
        }
        BigInteger product = before;
        int left = sum;
        for (int k = count; k > 0; k--) {
            product = product.multiply(BigInteger.valueOf(left / k));
            left -= left / k;
        }
        return product.compareTo(points) >= 0;
    }

    private void compareDigits(long point) {
        BigInteger left = BigInteger.valueOf(point);
        for (int pass = 0; pass < passes; pass++) {
            BigInteger[] parts = left.divideAndRemainder(BigInteger.valueOf(sizes[pass]));
            Due.is(name + "digit(" + point + ", " + pass + ")", search.digit(point, pass), parts[1].intValue());
            left = parts[0];
        }
    }
}
