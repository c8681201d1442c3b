import java.util.List;

/** Promise 10, "digits": the edges that its sentences name, a test each; and that the class throws, not the machine. */
public final class DigitsEdgesTest {
    private static final long MOST = 1L << 62;

    public static void main(String[] args) {
        Due.test("the first pass and the last", DigitsEdgesTest::firstAndLastPass);
        Due.test("the last pass of 62", DigitsEdgesTest::lastOfMostPasses);
        Due.test("throws: a pass below 0", DigitsEdgesTest::passBelowZero);
        Due.test("throws: a pass behind the last", DigitsEdgesTest::passBehindTheLast);
        Due.test("throws: a pass of the plan before", DigitsEdgesTest::passOfThePlanBefore);
        Due.test("throws: a plan that has none", DigitsEdgesTest::planWithoutPass);
        Due.test("throws: no plan", DigitsEdgesTest::noPlan);
        Due.test("throws: fewer than two bins, so never a plan", DigitsEdgesTest::fewBins);
        Due.test("the exception is the document's, no class below it", DigitsEdgesTest::exceptionsClass);
        Due.test("what throws changes nothing", DigitsEdgesTest::changesNothing);
        Due.end();
    }

    private static void firstAndLastPass() {
        PassSearch x = Due.planned(10, 1001);
        Due.is("digits(0)", Due.digits(x, 0), 4);
        Due.is("digits(3)", Due.digits(x, 3), 7);
        PassSearch one = Due.planned(10, 2);
        Due.is("digits(0) of one pass", Due.digits(one, 0), 2);
    }

    private static void lastOfMostPasses() {
        PassSearch x = Due.planned(2, MOST);
        Due.is("digits(61)", Due.digits(x, 61), 2);
        Due.is("digits(62)", Due.digits(x, 62), Due.ARRAY_INDEX);
        Due.is("digits(63)", Due.digits(x, 63), Due.ARRAY_INDEX);
    }

    private static void passBelowZero() {
        PassSearch x = Due.planned(10, 30);
        for (int pass : new int[] {-1, -2, Integer.MIN_VALUE}) {
            Due.is("digits(" + pass + ")", Due.digits(x, pass), Due.ARRAY_INDEX);
        }
    }

    private static void passBehindTheLast() {
        PassSearch x = Due.planned(10, 30);
        for (int pass : new int[] {2, 3, 61, 62, 63, Integer.MAX_VALUE}) {
            Due.is("digits(" + pass + ")", Due.digits(x, pass), Due.ARRAY_INDEX);
        }
    }

    private static void passOfThePlanBefore() {
        PassSearch x = Due.planned(10, 1001);
        Due.passes(x, 30);
        Due.is("digits(2)", Due.digits(x, 2), Due.ARRAY_INDEX);
        Due.is("digits(3)", Due.digits(x, 3), Due.ARRAY_INDEX);
    }

    private static void planWithoutPass() {
        PassSearch x = Due.planned(10, 30);
        Due.passes(x, 1);
        for (int pass : new int[] {Integer.MIN_VALUE, -1, 0, 1, 61, 62, Integer.MAX_VALUE}) {
            Due.is("digits(" + pass + ")", Due.digits(x, pass), Due.ARRAY_INDEX);
        }
    }

    private static void noPlan() {
        PassSearch x = new PassSearch(10);
        for (int pass : new int[] {Integer.MIN_VALUE, -1, 0, 1, 61, 62, Integer.MAX_VALUE}) {
            Due.is("digits(" + pass + ")", Due.digits(x, pass), Due.ARRAY_INDEX);
        }
        Due.passes(x, 0);
        Due.is("digits(0) behind a refused plan", Due.digits(x, 0), Due.ARRAY_INDEX);
    }

    private static void fewBins() {
        for (int bins : new int[] {-1, 0, 1}) {
            PassSearch x = new PassSearch(bins);
            Due.passes(x, 5);
            Due.is(bins + " bins, digits(0)", Due.digits(x, 0), Due.ARRAY_INDEX);
        }
    }

    private static void exceptionsClass() {
        Class<?> thrown = null;
        try {
            new PassSearch(10).digits(0);
        } catch (RuntimeException e) {
            thrown = e.getClass();
        }
        Due.is("digits(0) throws " + thrown, thrown == ArrayIndexOutOfBoundsException.class, true);
    }

    private static void changesNothing() {
        PassSearch x = Due.planned(10, 30);
        x.volume(29, 2);
        x.volume(7, 3);
        List<Long> before = Seen.of(x, 10, 5);
        Due.digits(x, -1);
        Due.digits(x, 2);
        Due.digits(x, Integer.MAX_VALUE);
        Due.same("the state", Seen.of(x, 10, 5), before);
    }
}
