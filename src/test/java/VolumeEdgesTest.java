import java.util.List;

/** Promise 5, "volume": the edges that its sentence and the refusals name, a test each. */
public final class VolumeEdgesTest {
    private static final int UNKNOWN = PassSearch.UNKNOWN;
    private static final int OUTSIDE = PassSearch.OUTSIDE;
    private static final int STATE = PassSearch.STATE;
    private static final int ROOM = PassSearch.ROOM;
    private static final long MOST = 1L << 62;

    public static void main(String[] args) {
        Due.test("perhaps none come", VolumeEdgesTest::noItems);
        Due.test("none come to a full plan", VolumeEdgesTest::noItemsWhenFull);
        Due.test("others of the point may be there", VolumeEdgesTest::othersOfThePoint);
        Due.test("how many there are, of all points", VolumeEdgesTest::ofAllPoints);
        Due.test("the first point and the last", VolumeEdgesTest::firstAndLastPoint);
        Due.test("a plan of one point has items too", VolumeEdgesTest::planOfOnePoint);
        Due.test("1000 items come at once", VolumeEdgesTest::mostItemsAtOnce);
        Due.test("UNKNOWN: a point below 0", VolumeEdgesTest::pointBelowZero);
        Due.test("UNKNOWN: a point behind the last", VolumeEdgesTest::pointBehindTheLast);
        Due.test("UNKNOWN: a point whose lower half is one of the plan", VolumeEdgesTest::pointOfLowerHalf);
        Due.test("OUTSIDE: n is below 0", VolumeEdgesTest::nBelowZero);
        Due.test("OUTSIDE: n is above 1000", VolumeEdgesTest::nAboveThousand);
        Due.test("STATE: no plan", VolumeEdgesTest::noPlan);
        Due.test("ROOM: more than 4000 items", VolumeEdgesTest::noRoom);
        Due.test("4000 items have room", VolumeEdgesTest::justRoom);
        Due.test("ROOM changes nothing", VolumeEdgesTest::noRoomChangesNothing);
        Due.test("UNKNOWN before OUTSIDE", VolumeEdgesTest::unknownBeforeOutside);
        Due.test("UNKNOWN before STATE", VolumeEdgesTest::unknownBeforeState);
        Due.test("UNKNOWN before ROOM", VolumeEdgesTest::unknownBeforeRoom);
        Due.test("OUTSIDE before STATE", VolumeEdgesTest::outsideBeforeState);
        Due.test("OUTSIDE before ROOM", VolumeEdgesTest::outsideBeforeRoom);
        Due.end();
    }

    private static PassSearch full() {
        PassSearch x = Due.planned(10, 30);
        for (int point = 0; point < 4; point++) {
            x.volume(point, 1000);
        }
        return x;
    }

    private static void noItems() {
        PassSearch x = Due.planned(10, 30);
        Due.is("volume(7, 0)", x.volume(7, 0), 0);
        Due.is("order(0)", x.order(0), UNKNOWN);
        Due.is("trays()", x.trays(), 0);
        x.volume(3, 2);
        Due.is("volume(7, 0) behind two items", x.volume(7, 0), 2);
        Due.is("volume(3, 0) behind two items", x.volume(3, 0), 2);
        Due.is("order(2)", x.order(2), UNKNOWN);
        Due.is("sort(2, 0)", x.sort(2, 0), UNKNOWN);
        Due.is("trays() behind two items", x.trays(), 2);
    }

    private static void noItemsWhenFull() {
        Due.is("volume(7, 0)", full().volume(7, 0), 4000);
    }

    private static void othersOfThePoint() {
        PassSearch x = Due.planned(10, 30);
        Due.is("volume(7, 2)", x.volume(7, 2), 2);
        Due.is("volume(7, 1)", x.volume(7, 1), 3);
        x.volume(3, 1);
        Due.is("volume(7, 1000)", x.volume(7, 1000), 1004);
        Due.is("volume(7, 1000)", x.volume(7, 1000), 2004);
        Due.is("order(0)", x.order(0), 3);
        Due.is("order(3)", x.order(3), 2);
        Due.is("order(4)", x.order(4), 4);
    }

    private static void ofAllPoints() {
        PassSearch x = Due.planned(10, 30);
        for (int point = 0; point < 30; point++) {
            Due.is("volume(" + point + ", 3)", x.volume(point, 3), 3 * (point + 1));
        }
    }

    private static void firstAndLastPoint() {
        PassSearch x = Due.planned(10, 30);
        Due.is("volume(0, 1)", x.volume(0, 1), 1);
        Due.is("volume(29, 1)", x.volume(29, 1), 2);
        PassSearch most = Due.planned(10, MOST);
        Due.is("volume(2^62 - 1, 1)", most.volume(MOST - 1, 1), 1);
        Due.is("volume(2^62, 1)", most.volume(MOST, 1), UNKNOWN);
    }

    private static void planOfOnePoint() {
        PassSearch x = Due.planned(10, 1);
        Due.is("volume(0, 1000)", x.volume(0, 1000), 1000);
        Due.is("volume(1, 1)", x.volume(1, 1), UNKNOWN);
    }

    private static void mostItemsAtOnce() {
        PassSearch x = Due.planned(10, 30);
        Due.is("volume(0, 999)", x.volume(0, 999), 999);
        Due.is("volume(0, 1000)", x.volume(0, 1000), 1999);
    }

    private static void pointBelowZero() {
        PassSearch x = Due.planned(10, 30);
        for (long point : new long[] {-1, -30, Long.MIN_VALUE}) {
            Due.is("volume(" + point + ", 1)", x.volume(point, 1), UNKNOWN);
            Due.is("volume(" + point + ", 0)", x.volume(point, 0), UNKNOWN);
        }
        Due.is("volume(0, 0)", x.volume(0, 0), 0);
    }

    private static void pointBehindTheLast() {
        PassSearch x = Due.planned(10, 30);
        for (long point : new long[] {30, 31, MOST, Long.MAX_VALUE}) {
            Due.is("volume(" + point + ", 1)", x.volume(point, 1), UNKNOWN);
            Due.is("volume(" + point + ", 0)", x.volume(point, 0), UNKNOWN);
        }
        Due.is("volume(0, 0)", x.volume(0, 0), 0);
    }

    private static void pointOfLowerHalf() {
        PassSearch x = Due.planned(10, 30);
        Due.is("volume(2^32, 1)", x.volume(1L << 32, 1), UNKNOWN);
        Due.is("volume(2^32 + 29, 1)", x.volume((1L << 32) + 29, 1), UNKNOWN);
    }

    private static void nBelowZero() {
        PassSearch x = Due.planned(10, 30);
        for (int n : new int[] {-1, -2, -1000, Integer.MIN_VALUE}) {
            Due.is("volume(7, " + n + ")", x.volume(7, n), OUTSIDE);
        }
        Due.is("volume(7, 0)", x.volume(7, 0), 0);
    }

    private static void nAboveThousand() {
        PassSearch x = Due.planned(10, 30);
        for (int n : new int[] {1001, 1002, 4000, 4001, Integer.MAX_VALUE}) {
            Due.is("volume(7, " + n + ")", x.volume(7, n), OUTSIDE);
        }
        Due.is("volume(7, 0)", x.volume(7, 0), 0);
    }

    private static void noPlan() {
        for (int bins : new int[] {0, 1, 10}) {
            PassSearch x = new PassSearch(bins);
            for (long point : new long[] {0, 1, MOST, Long.MAX_VALUE}) {
                for (int n : new int[] {0, 1, 1000}) {
                    Due.is("volume(" + point + ", " + n + ")", x.volume(point, n), STATE);
                }
            }
        }
    }

    private static void noRoom() {
        for (int left = 0; left < 1000; left += 111) {
            PassSearch x = Due.planned(10, 30);
            for (int k = 0; k < 3; k++) {
                x.volume(k, 1000);
            }
            x.volume(3, 1000 - left);
            Due.is("volume(5, " + (left + 1) + ") with " + left + " left", x.volume(5, left + 1), ROOM);
            Due.is("volume(5, 1000) with " + left + " left", x.volume(5, 1000), ROOM);
        }
    }

    private static void justRoom() {
        for (int left = 0; left <= 1000; left += 125) {
            PassSearch x = Due.planned(10, 30);
            for (int k = 0; k < 3; k++) {
                x.volume(k, 1000);
            }
            x.volume(3, 1000 - left);
            Due.is("volume(5, " + left + ")", x.volume(5, left), 4000);
            Due.is("volume(5, 1)", x.volume(5, 1), ROOM);
        }
    }

    private static void noRoomChangesNothing() {
        PassSearch x = Due.planned(10, 30);
        for (int k = 0; k < 3; k++) {
            x.volume(29 - k, 1000);
        }
        x.volume(7, 990);
        List<Long> before = Seen.of(x, 10, 5);
        Due.is("volume(0, 11)", x.volume(0, 11), ROOM);
        Due.same("the state", Seen.of(x, 10, 5), before);
        Due.is("volume(0, 10)", x.volume(0, 10), 4000);
        Due.is("order(0)", x.order(0), 3990);
    }

    private static void unknownBeforeOutside() {
        PassSearch x = Due.planned(10, 30);
        Due.is("volume(30, 1001)", x.volume(30, 1001), UNKNOWN);
        Due.is("volume(30, -1)", x.volume(30, -1), UNKNOWN);
        Due.is("volume(-1, 1001)", x.volume(-1, 1001), UNKNOWN);
        Due.is("volume(-1, -1)", x.volume(-1, -1), UNKNOWN);
    }

    private static void unknownBeforeState() {
        PassSearch x = new PassSearch(10);
        Due.is("volume(-1, 1)", x.volume(-1, 1), UNKNOWN);
        Due.is("volume(-1, 0)", x.volume(-1, 0), UNKNOWN);
        Due.is("volume(-1, 1001)", x.volume(-1, 1001), UNKNOWN);
        Due.is("volume(min, 1)", x.volume(Long.MIN_VALUE, 1), UNKNOWN);
    }

    private static void unknownBeforeRoom() {
        PassSearch x = full();
        Due.is("volume(30, 1)", x.volume(30, 1), UNKNOWN);
        Due.is("volume(-1, 1)", x.volume(-1, 1), UNKNOWN);
    }

    private static void outsideBeforeState() {
        PassSearch x = new PassSearch(10);
        Due.is("volume(0, -1)", x.volume(0, -1), OUTSIDE);
        Due.is("volume(0, 1001)", x.volume(0, 1001), OUTSIDE);
        Due.is("volume(max, 1001)", x.volume(Long.MAX_VALUE, 1001), OUTSIDE);
    }

    private static void outsideBeforeRoom() {
        PassSearch x = full();
        Due.is("volume(7, 1001)", x.volume(7, 1001), OUTSIDE);
        Due.is("volume(7, max)", x.volume(7, Integer.MAX_VALUE), OUTSIDE);
    }
}
