import java.math.BigInteger;
import java.util.ArrayList;
import java.util.Arrays;
import java.util.List;
import java.util.TreeMap;

/** The document's words done step by step, with no thought for speed: what PassSearch is compared with. */
final class PlainModel {
    private static final long MOST = 1L << 62;

    private final int bins;
    private final int[] heights;
    private final List<Long> items = new ArrayList<>();
    private long points;
    private int[] sizes;

    PlainModel(int bins) {
        this.bins = bins < 0 ? 0 : Math.min(bins, 65536);
        heights = new int[this.bins];
        Arrays.fill(heights, 1000);
    }

    long passes(long points) {
        if (bins < 2) {
            return Due.ILLEGAL_ARGUMENT;
        }
        if (points < 1 || points > MOST) {
            return PassSearch.OUTSIDE;
        }
        this.points = points;
        sizes = PlainSizes.of(points, needed(points), bins);
        items.clear();
        return sizes.length;
    }

    long digit(long point, int pass) {
        if (noPoint(point) || noPass(pass)) {
            return PassSearch.UNKNOWN;
        }
        return sizes == null ? PassSearch.STATE : bin(point, pass);
    }

    long best(long points, int most) {
        if (points < 1 || points > MOST || most < 1 || most > 62) {
            return PassSearch.OUTSIDE;
        }
        BigInteger low = BigInteger.ONE;
        BigInteger high = BigInteger.valueOf(MOST);
        while (high.subtract(low).compareTo(BigInteger.ONE) > 0) {
            BigInteger middle = low.add(high).shiftRight(1);
            if (middle.pow(most).compareTo(BigInteger.valueOf(points)) >= 0) {
                high = middle;
            } else {
                low = middle;
            }
        }
        return high.bitLength() > 31 ? PassSearch.OUTSIDE : high.longValue();
    }

    long volume(long point, int n) {
        if (noPoint(point)) {
            return PassSearch.UNKNOWN;
        }
        if (n < 0 || n > 1000) {
            return PassSearch.OUTSIDE;
        }
        if (sizes == null) {
            return PassSearch.STATE;
        }
        if (items.size() + n > 4000) {
            return PassSearch.ROOM;
        }
        for (int k = 0; k < n; k++) {
            items.add(point);
        }
        return items.size();
    }

    long height(int bin, int n) {
        if (bin < 0 || bin >= bins) {
            return PassSearch.UNKNOWN;
        }
        if (n < 1 || n > 100000) {
            return PassSearch.OUTSIDE;
        }
        int before = heights[bin];
        heights[bin] = n;
        return before;
    }

    long trays() {
        if (sizes == null) {
            return PassSearch.STATE;
        }
        long trays = 0;
        for (int pass = 0; pass < sizes.length; pass++) {
            TreeMap<Integer, List<Integer>> filled = fill(asTheyCame(), pass);
            for (int bin : filled.keySet()) {
                int left = filled.get(bin).size();
                while (left > 0) {
                    left -= heights[bin];
                    trays++;
                }
            }
        }
        return trays;
    }

    long sort(int item, int pass) {
        if (item < 0 || sizes != null && item >= items.size() || noPass(pass)) {
            return PassSearch.UNKNOWN;
        }
        return sizes == null ? PassSearch.STATE : behind(pass).indexOf(item);
    }

    long order(int i) {
        if (i < 0 || sizes != null && i >= items.size()) {
            return PassSearch.UNKNOWN;
        }
        return sizes == null ? PassSearch.STATE : behind(sizes.length - 1).get(i);
    }

    long digits(int i) {
        return sizes == null || i < 0 || i >= sizes.length ? Due.ARRAY_INDEX : sizes[i];
    }

    long least(long points, int passes) {
        return bins >= 2 && points >= 1 && points <= MOST && needed(points) == passes ? 1 : 0;
    }

    int itemCount() {
        return items.size();
    }

    long pointCount() {
        return points;
    }

    private int needed(long points) {
        int passes = 0;
        while (BigInteger.valueOf(bins).pow(passes).compareTo(BigInteger.valueOf(points)) < 0) {
            passes++;
        }
        return passes;
    }

    private boolean noPoint(long point) {
        return point < 0 || sizes != null && point >= points;
    }

    private boolean noPass(int pass) {
        return pass < 0 || sizes != null && pass >= sizes.length;
    }

    private int bin(long point, int pass) {
        long left = point;
        for (int k = 0; k < pass; k++) {
            left /= sizes[k];
        }
        return (int) (left % sizes[pass]);
    }

    private List<Integer> asTheyCame() {
        List<Integer> row = new ArrayList<>();
        for (int item = 0; item < items.size(); item++) {
            row.add(item);
        }
        return row;
    }

    private TreeMap<Integer, List<Integer>> fill(List<Integer> row, int pass) {
        TreeMap<Integer, List<Integer>> filled = new TreeMap<>();
        for (int item : row) {
            filled.computeIfAbsent(bin(items.get(item), pass), b -> new ArrayList<>()).add(item);
        }
        return filled;
    }

    private List<Integer> behind(int last) {
        List<Integer> row = asTheyCame();
        for (int pass = 0; pass <= last; pass++) {
            List<Integer> next = new ArrayList<>();
            for (List<Integer> bin : fill(row, pass).values()) {
                next.addAll(bin);
            }
            row = next;
        }
        return row;
    }
}
