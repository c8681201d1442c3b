import java.util.ArrayList;
import java.util.List;

/** All that calls can tell of a small machine's state, so that it can be compared before and behind a refused call. */
final class Seen {
    private Seen() {
    }

    /** Some 120 calls with ten bins and five items; the heights are changed, and put back. */
    static List<Long> of(PassSearch x, int bins, int items) {
        List<Long> seen = new ArrayList<>();
        seen.add((long) x.volume(0, 0));
        for (int pass = 0; pass < 4; pass++) {
            seen.add(Due.digits(x, pass));
            for (int item = 0; item <= items; item++) {
                seen.add((long) x.sort(item, pass));
            }
            for (long point : new long[] {0, 1, 7, 28, 29, 30, 31}) {
                seen.add((long) x.digit(point, pass));
            }
        }
        for (int place = 0; place <= items; place++) {
            seen.add((long) x.order(place));
        }
        for (int bin = 0; bin < bins; bin++) {
            int height = x.height(bin, 1);
            x.height(bin, height);
            seen.add((long) height);
        }
        seen.add((long) x.trays());
        return seen;
    }
}
