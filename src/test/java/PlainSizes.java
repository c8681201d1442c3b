import java.math.BigInteger;

/** A plan's sizes by trying them: all rows of a sum in their order, until one has a product that does. */
final class PlainSizes {
    private final BigInteger points;
    private final int bins;
    private final int[] row;

    private PlainSizes(long points, int passes, int bins) {
        this.points = BigInteger.valueOf(points);
        this.bins = bins;
        row = new int[passes];
    }

    static int[] of(long points, int passes, int bins) {
        PlainSizes sizes = new PlainSizes(points, passes, bins);
        // below it not even equal sizes with a fraction do
        double mean = passes == 0 ? 0 : Math.pow(points, 1.0 / passes);
        int sum = Math.max(2 * passes, (int) (passes * mean * 0.999) - 1);
        while (!sizes.find(0, sum, BigInteger.ONE)) {
            sum++;
        }
        return sizes.row;
    }

    private boolean find(int pass, int sum, BigInteger product) {
        int left = row.length - pass;
        if (left == 0) {
            return sum == 0 && product.compareTo(points) >= 0;
        }
        if (!canDo(left, sum, product)) {
            return false;
        }
        // the least row of a sum is an ascending one: any row can be put in that order
        int first = Math.max(pass == 0 ? 2 : row[pass - 1], sum - (left - 1) * bins);
        for (int size = first; size <= bins && size * left <= sum; size++) {
            row[pass] = size;
            if (find(pass + 1, sum - size, product.multiply(BigInteger.valueOf(size)))) {
                return true;
            }
        }
        return false;
    }

    /** False only where no row can: the mean of the sizes left, to their number's power, bounds their product. */
    private boolean canDo(int left, int sum, BigInteger product) {
        if (sum < 2 * left || sum > left * bins) {
            return false;
        }
        return product.doubleValue() * Math.pow((double) sum / left, left) >= points.doubleValue() * 0.999999999;
    }
}
