import java.lang.reflect.Constructor;
import java.lang.reflect.Field;
import java.lang.reflect.Method;
import java.lang.reflect.Modifier;
import java.util.Arrays;
import java.util.Set;
import java.util.TreeSet;

/** The public face is the document's and no more, and nothing but its two exceptions ever comes out of a call. */
public final class FaceTest {
    private static final Set<String> FACE = Set.of(
        "public static final int PassSearch.UNKNOWN", "public static final int PassSearch.OUTSIDE",
        "public static final int PassSearch.STATE", "public static final int PassSearch.ROOM",
        "public PassSearch(int)",
        "public int PassSearch.passes(long) throws java.lang.IllegalArgumentException",
        "public int PassSearch.digit(long,int)", "public int PassSearch.best(long,int)",
        "public int PassSearch.volume(long,int)", "public int PassSearch.height(int,int)",
        "public int PassSearch.trays()", "public int PassSearch.sort(int,int)", "public int PassSearch.order(int)",
        "public int PassSearch.digits(int) throws java.lang.ArrayIndexOutOfBoundsException",
        "public boolean PassSearch.least(long,int)");
    private static final int[] NUMBERS = {Integer.MIN_VALUE, -1, 0, 1, 2, 3, 61, 62, 63, 511, 512, 513, 1000, 3999, 4000,
        65535, 65536, Integer.MAX_VALUE};
    private static final long[] LONG_NUMBERS = {Long.MIN_VALUE, -1, 0, 1, 2, 3, 1000, 1L << 31, (1L << 62) - 1, 1L << 62,
        (1L << 62) + 1, Long.MAX_VALUE};

    public static void main(String[] args) {
        face();
        for (int bins : new int[] {0, 1, 2, 3, 10, 65536}) {
            anyNumbers(bins);
            manyCalls(bins);
        }
        Due.end();
    }

    private static void face() {
        Set<String> open = new TreeSet<>();
        for (Field field : PassSearch.class.getDeclaredFields()) {
            if (!Modifier.isPrivate(field.getModifiers())) {
                open.add(field.toString());
            }
        }
        for (Constructor<?> constructor : PassSearch.class.getDeclaredConstructors()) {
            if (!Modifier.isPrivate(constructor.getModifiers())) {
                open.add(constructor.toString());
            }
        }
        for (Method method : PassSearch.class.getDeclaredMethods()) {
            if (!Modifier.isPrivate(method.getModifiers())) {
                open.add(method.toString());
            } else {
                Due.is("a private method named as a public one: " + method.getName(),
                        FACE.stream().anyMatch(f -> f.contains("." + method.getName() + "(")), false);
            }
        }
        Due.is("the class is public and final", PassSearch.class.getModifiers(), Modifier.PUBLIC | Modifier.FINAL);
        Due.is("the face " + open, open.equals(FACE), true);
        Due.is("all classes inside are static", Arrays.stream(PassSearch.class.getDeclaredClasses())
                .allMatch(c -> Modifier.isStatic(c.getModifiers())), true);
    }

    /** Any other exception than the document's two ends this test, and so fails it. */
    private static void anyNumbers(int bins) {
        PassSearch x = new PassSearch(bins);
        for (long plan : LONG_NUMBERS) {
            for (long a : LONG_NUMBERS) {
                for (int b : NUMBERS) {
                    x.digit(a, b);
                    x.best(a, b);
                    x.volume(a, b);
                    x.least(a, b);
                }
            }
            for (int a : NUMBERS) {
                for (int b : NUMBERS) {
                    x.height(a, b);
                    x.sort(a, b);
                }
                x.order(a);
                Due.digits(x, a);
            }
            x.trays();
            Due.passes(x, plan);
        }
    }

    private static void manyCalls(int bins) {
        PassSearch x = new PassSearch(bins);
        Due.passes(x, 1L << 40);
        for (int k = 0; k < 5000; k++) {
            x.volume(k * 1001L, 1);
            x.height(k, 1);
            x.sort(k, 0);
            x.order(k);
        }
        x.trays();
    }
}
