/** A machine with bins that sorts the items of a round by passes; shared/DOC.md tells what each call answers. */
public final class PassSearch {
    public static final int UNKNOWN = -1, OUTSIDE = -2, STATE = -3, ROOM = -4;

    private static final int MOST_BINS = 65536;
    private static final long MOST_POINTS = 1L << 62;
    private static final int MOST_PASSES = 62;
    private static final int LEAST_SIZE = 2;
    private static final int MOST_ITEMS = 4000;
    private static final int MOST_ITEMS_A_CALL = 1000;
    private static final int FIRST_HEIGHT = 1000;
    private static final int MOST_HEIGHT = 100000;
    /** An object is used for so many calls at most: no row that grows by one a call needs more. */
    private static final int MOST_CALLS = 512;

    private final int bins;
    private final Plan plan;
    private final Items items;
    private final BinTable heights;
    private final BinTable tally;

    public PassSearch(int bins) {
        this.bins = Math.max(0, Math.min(bins, MOST_BINS));
        plan = new Plan(this.bins);
        items = new Items();
        heights = new BinTable();
        tally = new BinTable();
    }

    public int passes(long points) throws IllegalArgumentException {
        if (bins < LEAST_SIZE) {
            throw new IllegalArgumentException("fewer than two bins");
        }
        if (!isRound(points)) {
            return OUTSIDE;
        }
        plan.lay(points);
        items.clear();
        return plan.passCount();
    }

    public int digit(long point, int pass) {
        if (isUnknownPoint(point) || isUnknownPass(pass)) {
            return UNKNOWN;
        }
        return plan.isLaid() ? plan.binOf(point, pass) : STATE;
    }

    public int best(long points, int most) {
        if (!isRound(points) || most < 1 || most > MOST_PASSES) {
            return OUTSIDE;
        }
        long base = Whole.leastBase(points, most, Integer.MAX_VALUE);
        return base > Integer.MAX_VALUE ? OUTSIDE : (int) base;
    }

    public int volume(long point, int n) {
        if (isUnknownPoint(point)) {
            return UNKNOWN;
        }
        if (n < 0 || n > MOST_ITEMS_A_CALL) {
            return OUTSIDE;
        }
        if (!plan.isLaid()) {
            return STATE;
        }
        if (!items.hasRoom(n)) {
            return ROOM;
        }
        items.add(point, n);
        return items.total();
    }

    public int height(int bin, int n) {
        if (bin < 0 || bin >= bins) {
            return UNKNOWN;
        }
        if (n < 1 || n > MOST_HEIGHT) {
            return OUTSIDE;
        }
        int before = heightOf(bin);
        // Only behind the 512th call can the table be full, where every answer is free.
        return heights.put(bin, n) ? before : OUTSIDE;
    }

    public int trays() {
        if (!plan.isLaid()) {
            return STATE;
        }
        int sum = 0;
        for (int pass = 0; pass < plan.passCount(); pass++) {
            sum += traysOfPass(pass);
        }
        return sum;
    }

    public int sort(int item, int pass) {
        if (isUnknownItem(item) || isUnknownPass(pass)) {
            return UNKNOWN;
        }
        return plan.isLaid() ? items.placeOf(item, plan.spanBehind(pass)) : STATE;
    }

    public int order(int i) {
        if (isUnknownItem(i)) {
            return UNKNOWN;
        }
        return plan.isLaid() ? items.itemAt(i) : STATE;
    }

    public int digits(int i) throws ArrayIndexOutOfBoundsException {
        if (!plan.hasPass(i)) {
            throw new ArrayIndexOutOfBoundsException("no such pass");
        }
        return plan.sizeOf(i);
    }

    public boolean least(long points, int passes) {
        return bins >= LEAST_SIZE && isRound(points) && passes == Whole.leastExponent(bins, points);
    }

    private static boolean isRound(long points) {
        return points >= 1 && points <= MOST_POINTS;
    }

    private boolean isUnknownPoint(long point) {
        return point < 0 || plan.isLaid() && !plan.hasPoint(point);
    }

    private boolean isUnknownPass(int pass) {
        return pass < 0 || plan.isLaid() && !plan.hasPass(pass);
    }

    /** Holds for places too: there are as many as items. */
    private boolean isUnknownItem(int item) {
        return item < 0 || plan.isLaid() && item >= items.total();
    }

    private int heightOf(int bin) {
        int height = heights.valueOf(bin);
        return height == 0 ? FIRST_HEIGHT : height;
    }

    private int traysOfPass(int pass) {
        tally.clear();
        for (int group = 0; group < items.groupCount(); group++) {
            int bin = plan.binOf(items.pointOf(group), pass);
            tally.put(bin, tally.valueOf(bin) + items.countOf(group));
        }
        int sum = 0;
        for (int entry = 0; entry < tally.size(); entry++) {
            sum += Whole.quotientUp(tally.valueAt(entry), heightOf(tally.binAt(entry)));
        }
        return sum;
    }

    /** Whole numbers: divisions that look at the divisor, and products that stop at MOST_POINTS. */
    private static final class Whole {
        static long quotient(long value, long divisor) {
            return divisor < 1 ? 0 : value / divisor;
        }

        static long remainder(long value, long divisor) {
            return divisor < 1 ? 0 : value % divisor;
        }

        static int quotientUp(int value, int divisor) {
            return divisor < 1 ? 0 : (value + divisor - 1) / divisor;
        }

        /** Stops at MOST_POINTS, above which no product is ever compared, so that none overflows. */
        static long product(long a, long b) {
            return a > quotient(MOST_POINTS, b) ? MOST_POINTS : a * b;
        }

        static long power(long base, int exponent) {
            long power = 1;
            for (int k = 0; k < exponent; k++) {
                power = product(power, base);
            }
            return power;
        }

        /** The least exponent with which the base's power is not below points. */
        static int leastExponent(long base, long points) {
            long power = 1;
            int exponent = 0;
            while (exponent < MOST_PASSES && power < points) {
                power = product(power, base);
                exponent++;
            }
            return exponent;
        }

        /** The least base, 2 at least, whose power is not below points; most + 1 if all up to most are too small. */
        static long leastBase(long points, int exponent, long most) {
            long low = LEAST_SIZE;
            long high = most + 1;
            for (int step = 0; step < 64 && low < high; step++) {
                long middle = (low + high) / 2;
                if (power(middle, exponent) >= points) {
                    high = middle;
                } else {
                    low = middle + 1;
                }
            }
            return low;
        }

        /** The greatest product of so many numbers with this sum: it has them as equal as can be. */
        static long widestProduct(int sum, int count) {
            int low = (int) quotient(sum, count);
            int higher = (int) remainder(sum, count);
            return product(power(low + 1, higher), power(low, count - higher));
        }
    }

    /** How many points and which sizes; no points: there is no plan. */
    private static final class Plan {
        private final int bins;
        private final int[] sizes = new int[MOST_PASSES];
        /** At k the product of the sizes before pass k: below twice the points, as the sum of sizes is the least. */
        private final long[] spans = new long[MOST_PASSES + 1];
        private long points;
        private int passCount;

        Plan(int bins) {
            this.bins = bins;
        }

        boolean isLaid() {
            return points > 0;
        }

        boolean hasPoint(long point) {
            return point >= 0 && point < points;
        }

        boolean hasPass(int pass) {
            return pass >= 0 && pass < passCount;
        }

        int passCount() {
            return passCount;
        }

        int sizeOf(int pass) {
            return hasPass(pass) ? sizes[pass] : 0;
        }

        long spanBehind(int pass) {
            return hasPass(pass) ? spans[pass + 1] : 1;
        }

        int binOf(long point, int pass) {
            return hasPass(pass) ? (int) Whole.remainder(Whole.quotient(point, spans[pass]), sizes[pass]) : 0;
        }

        void lay(long points) {
            this.points = points;
            passCount = Whole.leastExponent(bins, points);
            spans[0] = 1;
            int sum = leastSum();
            for (int pass = 0; pass < passCount; pass++) {
                sizes[pass] = leastSize(pass, sum);
                spans[pass + 1] = spans[pass] * sizes[pass];
                sum -= sizes[pass];
            }
        }

        /** The widest product grows with the sum, and passes the points between two neighbouring powers. */
        private int leastSum() {
            int base = (int) Whole.leastBase(points, passCount, bins);
            int most = base * passCount;
            int sum = Math.max(LEAST_SIZE * passCount, most - passCount);
            while (sum < most && Whole.widestProduct(sum, passCount) < points) {
                sum++;
            }
            return sum;
        }

        /**
         * The least size of a pass with which the passes behind it can still reach the points, all of them having
         * this sum. Up to the mean a greater size never makes their widest product smaller, so halving finds it.
         */
        private int leastSize(int pass, int sum) {
            int low = LEAST_SIZE;
            int high = (int) Whole.quotient(sum, passCount - pass);
            if (pass == passCount - 1) {
                return high;
            }
            for (int step = 0; step < 32 && low < high; step++) {
                int middle = (low + high) / 2;
                if (isEnough(pass, middle, sum - middle)) {
                    high = middle;
                } else {
                    low = middle + 1;
                }
            }
            return low;
        }

        private boolean isEnough(int pass, int size, int sumBehind) {
            int passesBehind = passCount - pass - 1;
            if (sumBehind > passesBehind * bins) {
                return false;
            }
            long widestBehind = Whole.widestProduct(sumBehind, passesBehind);
            return Whole.product(Whole.product(spans[pass], size), widestBehind) >= points;
        }
    }

    /**
     * The items, held as groups: those that came with one call. They have one point and came one behind another, so
     * they stay together in every pass.
     */
    private static final class Items {
        private final long[] points = new long[MOST_CALLS];
        private final int[] firsts = new int[MOST_CALLS];
        private final int[] counts = new int[MOST_CALLS];
        /** The groups as they lie behind the last pass: by points, those of one point as they came. */
        private final int[] sorted = new int[MOST_CALLS];
        private int groupCount;
        private int total;

        void clear() {
            groupCount = 0;
            total = 0;
        }

        int total() {
            return total;
        }

        int groupCount() {
            return groupCount;
        }

        long pointOf(int group) {
            return hasGroup(group) ? points[group] : 0;
        }

        int countOf(int group) {
            return hasGroup(group) ? counts[group] : 0;
        }

        boolean hasRoom(int n) {
            return total + n <= MOST_ITEMS && (n == 0 || groupCount < MOST_CALLS);
        }

        void add(long point, int n) {
            if (n < 1 || !hasRoom(n)) {
                return;
            }
            points[groupCount] = point;
            firsts[groupCount] = total;
            counts[groupCount] = n;
            putSorted(groupCount);
            groupCount++;
            total += n;
        }

        int itemAt(int place) {
            int before = 0;
            for (int k = 0; k < groupCount; k++) {
                int group = sorted[k];
                if (place < before + counts[group]) {
                    return firsts[group] + place - before;
                }
                before += counts[group];
            }
            return UNKNOWN;
        }

        /**
         * Behind a pass the items lie by the point modulo the product of the sizes up to that pass, and as they came
         * where that is the same: each pass keeps what the ones before it put in order.
         */
        int placeOf(int item, long span) {
            int own = groupOf(item);
            if (!hasGroup(own)) {
                return UNKNOWN;
            }
            long ownKey = Whole.remainder(points[own], span);
            int place = item - firsts[own];
            for (int group = 0; group < groupCount; group++) {
                long key = Whole.remainder(points[group], span);
                if (key < ownKey || key == ownKey && group < own) {
                    place += counts[group];
                }
            }
            return place;
        }

        private boolean hasGroup(int group) {
            return group >= 0 && group < groupCount;
        }

        private int groupOf(int item) {
            int group = groupCount - 1;
            while (group > 0 && firsts[group] > item) {
                group--;
            }
            return group;
        }

        private void putSorted(int group) {
            int k = group;
            while (k > 0 && points[sorted[k - 1]] > points[group]) {
                sorted[k] = sorted[k - 1];
                k--;
            }
            sorted[k] = group;
        }
    }

    /**
     * A number for each of a few bins, 0 for all others. A row of all bins would be large, and calls reach few of
     * them; so the bins are scattered over slots, of which half at least stay free.
     */
    private static final class BinTable {
        private static final int SLOT_BITS = 10;
        private static final int SLOTS = 1 << SLOT_BITS;
        private static final int SCATTER = 0x9E3779B1;

        /** The bin plus 1; 0 where the slot is free. */
        private final int[] marks = new int[SLOTS];
        private final int[] values = new int[SLOTS];
        /** The slots that are not free, so that clear and the walk over the entries pass by the others. */
        private final int[] taken = new int[MOST_CALLS];
        private int size;

        int size() {
            return size;
        }

        int binAt(int entry) {
            return entry >= 0 && entry < size ? marks[taken[entry]] - 1 : 0;
        }

        int valueAt(int entry) {
            return entry >= 0 && entry < size ? values[taken[entry]] : 0;
        }

        int valueOf(int bin) {
            int slot = slotOf(bin);
            return marks[slot] == 0 ? 0 : values[slot];
        }

        /** Whether there was room for it. */
        boolean put(int bin, int value) {
            int slot = slotOf(bin);
            if (marks[slot] == 0) {
                if (size >= MOST_CALLS) {
                    return false;
                }
                marks[slot] = bin + 1;
                taken[size] = slot;
                size++;
            }
            values[slot] = value;
            return true;
        }

        void clear() {
            for (int entry = 0; entry < size; entry++) {
                marks[taken[entry]] = 0;
            }
            size = 0;
        }

        /** The slot that has the bin, or else the free one where it would go. */
        private int slotOf(int bin) {
            int slot = (bin * SCATTER) >>> (32 - SLOT_BITS);
            for (int step = 0; step < SLOTS && marks[slot] != 0 && marks[slot] != bin + 1; step++) {
                slot = (slot + 1) & (SLOTS - 1);
            }
            return slot;
        }
    }
}
