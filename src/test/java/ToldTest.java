/** Promises 22 to 25: tell, then, fits, times. */
public final class ToldTest {
    private static final Due T = new Due("ToldTest");

    public static void main(String[] args) {
        tell();
        then();
        fits();
        fitsOfAnAbbot();
        fitsRefused();
        timesRefused();
        times();
        T.end();
    }

    private static void tell() {
        AsWasSaid x = new AsWasSaid();
        T.refused(x, "tell(-1)", x.digest(), x.tell(-1), Due.UNKNOWN);
        T.refused(x, "tell(64)", x.digest(), x.tell(64), Due.UNKNOWN);
        T.due("tell(63)", x.tell(63), 0);
        T.due("count(6)", x.count(6), 1);
        T.due("tell(0)", x.tell(0), 1);
        x.then(1);
        x.then(2);
        T.refused(x, "tell(64)", x.digest(), x.tell(64), Due.UNKNOWN);
        T.due("tell(5)", x.tell(5), 3);
        T.due("count(6)", x.count(6), 1);
    }

    private static void then() {
        AsWasSaid x = new AsWasSaid();
        T.refused(x, "then(0), not begun", x.digest(), x.then(0), Due.STATE);
        T.refused(x, "then(64), not begun", x.digest(), x.then(64), Due.STATE);
        x.tell(1);
        T.refused(x, "then(-1)", x.digest(), x.then(-1), Due.UNKNOWN);
        T.refused(x, "then(64)", x.digest(), x.then(64), Due.UNKNOWN);
        for (int number = 2; number <= 6; number++) {
            T.due("then(" + number + ")", x.then(number), number);
        }
        T.refused(x, "then(0), the seventh", x.digest(), x.then(0), Due.FULL);
        T.refused(x, "then(64), the seventh", x.digest(), x.then(64), Due.UNKNOWN);
        T.due("count(6)", x.count(6), 6);
        x.tell(0);
        T.due("then(63) behind a new tell()", x.then(63), 2);
    }

    private static void fits() {
        AsWasSaid x = Due.sensed(Due.said("a+b"), "212345");
        x.hearer(0, 5, 1);
        x.tell(2);
        T.due("one world fits all", x.fits(0, 0), 8);
        T.due("one world fits the first", x.fits(0, 1), 0);
        // in 2 a is not so, b is, c is not: not so by "and", so by "or"
        x.then(34);
        T.due("2, 34: fits(0, 0)", x.fits(0, 0), 4);
        T.due("2, 34: fits(0, 1)", x.fits(0, 1), 0);
        x.then(34);
        T.due("2, 34, 34: his fact is his value", x.fits(0, 0), 4);
        x.tell(2);
        x.then(2);
        T.due("2, 2: fits(0, 0)", x.fits(0, 0), 4);
        T.due("2, 2: fits(0, 1)", x.fits(0, 1), 4);
        x.tell(6);
        x.then(6);
        // b and c are so: not so by a and b alone, so by c and b
        T.due("6, 6: fits(0, 0)", x.fits(0, 0), 6);
        T.due("6, 6: fits(0, 1)", x.fits(0, 1), 1);
        x.then(38);
        T.due("6, 6, 38: fits(0, 0)", x.fits(0, 0), 0);
        T.due("6, 6, 38: fits(0, 1)", x.fits(0, 1), Due.NONE);
        x.tell(2);
        x.then(3);
        T.due("2, 3: not his fact", x.fits(0, 0), 0);
        T.due("count(5) behind fits()", x.count(5), 0);
        T.due("about(0, 5) behind fits()", x.about(0, 5), 0);
    }

    private static void fitsOfAnAbbot() {
        AsWasSaid x = Due.said("a+b");
        x.hearer(4, 1, 0);
        x.hearer(2, 1, 0);
        x.tell(2);
        x.then(0);
        T.due("the abbot acts by what is so", x.fits(0, 1), 4);
        T.due("the king by what is not", x.fits(1, 1), 0);
        x.then(0);
        T.due("the abbot: fits(0, 0)", x.fits(0, 0), 4);
        x.then(2);
        T.due("the abbot: fits(0, 0) no more", x.fits(0, 0), 0);
        T.due("the abbot: fits(0, 1) no more", x.fits(0, 1), Due.NONE);
    }

    private static void fitsRefused() {
        AsWasSaid x = new AsWasSaid();
        T.refused(x, "fits(0, 0), nobody", x.digest(), x.fits(0, 0), Due.UNKNOWN);
        x.hearer(0, 0, 1);
        T.refused(x, "fits(0, 0), no saying", x.digest(), x.fits(0, 0), Due.STATE);
        x.tell(0);
        T.refused(x, "fits(0, 0), no saying, but told", x.digest(), x.fits(0, 0), Due.STATE);
        AsWasSaid y = Due.said("a");
        y.hearer(0, 0, 1);
        T.refused(y, "fits(0, 0), not told", y.digest(), y.fits(0, 0), Due.STATE);
        T.refused(y, "fits(0, 2), not told", y.digest(), y.fits(0, 2), Due.OUTSIDE);
        T.refused(y, "fits(1, 2), not told", y.digest(), y.fits(1, 2), Due.UNKNOWN);
        y.tell(0);
        T.refused(y, "fits(-1, 0)", y.digest(), y.fits(-1, 0), Due.UNKNOWN);
        T.refused(y, "fits(1, 0)", y.digest(), y.fits(1, 0), Due.UNKNOWN);
        T.refused(y, "fits(0, -1)", y.digest(), y.fits(0, -1), Due.OUTSIDE);
        T.refused(y, "fits(0, 2)", y.digest(), y.fits(0, 2), Due.OUTSIDE);
    }

    private static void timesRefused() {
        AsWasSaid x = new AsWasSaid();
        T.refused(x, "times(1, 0, 0), no saying", x.digest(), x.times(1, 0, 0), Due.STATE);
        T.refused(x, "times(0, 0, 0), no saying", x.digest(), x.times(0, 0, 0), Due.OUTSIDE);
        Due.said(x, "a");
        T.refused(x, "times(0, 0, 0)", x.digest(), x.times(0, 0, 0), Due.OUTSIDE);
        T.refused(x, "times(61, 0, 0)", x.digest(), x.times(61, 0, 0), Due.OUTSIDE);
        T.refused(x, "times(1, -1, 0)", x.digest(), x.times(1, -1, 0), Due.OUTSIDE);
        T.refused(x, "times(1, MIN, 0)", x.digest(), x.times(1, Integer.MIN_VALUE, 0), Due.OUTSIDE);
        T.refused(x, "times(1, 0, -1)", x.digest(), x.times(1, 0, -1), Due.OUTSIDE);
        T.refused(x, "times(1, 0, 3)", x.digest(), x.times(1, 0, 3), Due.OUTSIDE);
    }

    private static void times() {
        AsWasSaid x = Due.said("na");
        // the seed behind 0 is 12345: a round
        T.due("times(1, 0, 2)", x.times(1, 0, 2), 12345);
        T.due("times(1, 0, 0)", x.times(1, 0, 0), 0);
        T.due("times(1, 0, 1)", x.times(1, 0, 1), 1);
        x.hearer(4, 0, 1);
        T.due("times(1, 0, 0) with an abbot", x.times(1, 0, 0), 1);
        T.due("times(1, 0, 1) with an abbot", x.times(1, 0, 1), 0);
        long before = x.digest();
        for (int seed : new int[] {0, 1, 2, 77, 65535, 65536, 123456789, Integer.MAX_VALUE}) {
            for (int times : new int[] {1, 2, 7, 60}) {
                due(x, times, seed);
            }
        }
        T.due("digest() behind times()", x.digest(), before);
    }

    /** The one hearer is an abbot: if fact 0 is not so, it becomes so. */
    private static void due(AsWasSaid x, int times, int seed) {
        java.math.BigInteger factor = java.math.BigInteger.valueOf(1103515245L);
        java.math.BigInteger rest = java.math.BigInteger.valueOf(2147483648L);
        long drawn = seed;
        int world = 0;
        int so = 0;
        boolean fresh = true;
        int left = times;
        while (left > 0) {
            drawn = factor.multiply(java.math.BigInteger.valueOf(drawn))
                .add(java.math.BigInteger.valueOf(12345)).mod(rest).longValue();
            long high = drawn / 65536;
            if (fresh && high % 2 == 1) {
                fresh = false;
                continue;
            }
            world = fresh ? world | 1 : world ^ (1 << (int) (high % 6));
            fresh = true;
            so += 1 - world % 2;
            left--;
        }
        T.due("times(" + times + ", " + seed + ", 0)", x.times(times, seed, 0), world);
        T.due("times(" + times + ", " + seed + ", 1)", x.times(times, seed, 1), so);
        T.due("times(" + times + ", " + seed + ", 2)", x.times(times, seed, 2), drawn);
    }
}
