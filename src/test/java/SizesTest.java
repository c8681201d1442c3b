import java.util.Arrays;

/** The sizes of all small plans against every row of sizes there is. */
public final class SizesTest {
    public static void main(String[] args) {
        for (int bins = 2; bins <= 7; bins++) {
            PassSearch x = new PassSearch(bins);
            for (int points = 1; points <= bins * bins * bins * bins; points++) {
                compare(x, bins, points);
                if (points % 100 == 0) {
                    x = new PassSearch(bins);
                }
            }
        }
        Due.end();
    }

    private static void compare(PassSearch x, int bins, int points) {
        int passes = 0;
        for (int power = 1; power < points; power *= bins) {
            passes++;
        }
        int[] due = least(bins, points, passes);
        Due.is("passes(" + points + ") with " + bins + " bins", Due.passes(x, points), passes);
        for (int pass = 0; pass < passes; pass++) {
            Due.is("digits(" + pass + ") of " + points + " with " + bins + " bins", Due.digits(x, pass), due[pass]);
        }
    }

    /** Goes through all rows in their order, so that the first of a sum is the least of it. */
    private static int[] least(int bins, int points, int passes) {
        int[] row = new int[passes];
        Arrays.fill(row, 2);
        int[] found = null;
        do {
            if (Arrays.stream(row).reduce(1, (a, b) -> a * b) >= points
                    && (found == null || Arrays.stream(row).sum() < Arrays.stream(found).sum())) {
                found = row.clone();
            }
        } while (next(row, bins));
        return found;
    }

    private static boolean next(int[] row, int bins) {
        for (int k = row.length - 1; k >= 0; k--) {
            if (row[k] < bins) {
                row[k]++;
                return true;
            }
            row[k] = 2;
        }
        return false;
    }
}
