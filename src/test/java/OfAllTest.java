/** Promises 26 to 29: image, restore, count, digest. */
public final class OfAllTest {
    private static final Due T = new Due("OfAllTest");

    public static void main(String[] args) {
        image();
        imageOfTold();
        whatStays();
        count();
        digestOfANewOne();
        digestOfAll();
        T.end();
    }

    private static void image() {
        AsWasSaid x = new AsWasSaid();
        T.refused(x, "restore(), none kept", x.digest(), x.restore(), Due.STATE);
        Due.said(x, "a");
        x.hearer(0, 1, 1);
        x.act(0);
        x.round();
        T.due("image()", x.image(), 2);
        long kept = x.digest();
        x.hearer(3, 2, 1);
        x.set(1, 0);
        x.round();
        x.set(4, 1);
        T.due("ahead of restore(): count(5)", x.count(5), 22);
        T.due("ahead of restore(): about(0, 5)", x.about(0, 5), 2);
        T.due("restore()", x.restore(), 2);
        T.due("digest() behind it", x.digest(), kept);
        T.due("count(3)", x.count(3), 1);
        T.due("count(4)", x.count(4), 1);
        T.due("about(0, 5)", x.about(0, 5), 1);
        T.due("about(1, 0)", x.about(1, 0), Due.UNKNOWN);
        T.due("hearer(4, 3, 0)", x.hearer(4, 3, 0), 1);
        T.due("about(1, 0)", x.about(1, 0), 4);
        T.due("about(1, 5)", x.about(1, 5), 0);
        x.set(0, 1);
        T.due("restore() again", x.restore(), 2);
        T.due("digest() behind it again", x.digest(), kept);
        Due.in(x, 33);
        T.due("image(), a later one", x.image(), 33);
        Due.in(x, 0);
        T.due("restore() of the later one", x.restore(), 33);
    }

    private static void imageOfTold() {
        AsWasSaid x = Due.said("a");
        x.hearer(0, 0, 1);
        x.image();
        x.tell(0);
        x.then(1);
        x.restore();
        T.due("told is gone", x.count(6), 0);
        T.due("then(0), not begun", x.then(0), Due.STATE);
        x.tell(0);
        x.then(1);
        x.image();
        x.then(3);
        T.due("fits(0, 0) ahead of restore()", x.fits(0, 0), 0);
        x.restore();
        T.due("count(6)", x.count(6), 2);
        T.due("fits(0, 0)", x.fits(0, 0), 2);
        x.tell(5);
        x.restore();
        T.due("count(6) again", x.count(6), 2);
        T.due("fits(0, 0) again", x.fits(0, 0), 2);
        T.due("then(1) behind it", x.then(1), 3);
    }

    private static void whatStays() {
        AsWasSaid x = Due.said("a");
        x.image();
        Due.sensed(Due.said(x, "b+c"), "543210");
        x.add(0);
        Due.written(x, "xyz");
        x.restore();
        T.due("the saying stays", x.count(0), 8);
        T.due("the other one stays", x.count(2), 2);
        T.due("the senses stay", x.sense(0), 5);
        T.due("the page stays", x.count(7), 3);
        T.due("how often was read stays", x.count(8), 2);
        T.due("how often add() was done stays", x.count(9), 1);
        x.image();
        T.due("image() leaves the page", x.count(7), 3);
    }

    private static void count() {
        AsWasSaid x = Due.said(Due.said("a+b"), "a&nb&c");
        x.hearer(0, 3, 1);
        x.hearer(1, 4, 1);
        x.hearer(4, 4, 1);
        x.round();
        x.round();
        x.tell(3);
        x.then(4);
        x.then(4);
        x.then(4);
        x.add(1);
        Due.written(x, "hello");
        long[] want = {16, 3, 8, 3, 2, 24, 4, 5, 2, 1};
        for (int what = 0; what < want.length; what++) {
            T.due("count(" + what + ")", x.count(what), want[what]);
        }
        T.refused(x, "count(-1)", x.digest(), x.count(-1), Due.OUTSIDE);
        T.refused(x, "count(10)", x.digest(), x.count(10), Due.OUTSIDE);
    }

    private static long mixed(long... numbers) {
        long h = 739;
        for (long number : numbers) {
            h = 31 * h + number;
        }
        return h;
    }

    private static void digestOfANewOne() {
        AsWasSaid x = new AsWasSaid();
        T.due("digest() of a new one", x.digest(),
            mixed(0, 1, 2, 3, 4, 5, 0, 0, 0, 0, 0, 0, 0, 0, 0, 0, 0, 0, 0, 0, 0, 0));
        Due.written(x, "Z~");
        x.tell(9);
        x.hearer(4, 5, 1);
        T.due("digest() without a saying", x.digest(),
            mixed(0, 1, 2, 3, 4, 5, 0, 0, 0, 0, 0, 0, 4, 5, 1, -1, 0, 0, 90, 126, 0, 0, 0, 1, 0, 0, 1, 2, 0, 0));
    }

    private static void digestOfAll() {
        AsWasSaid x = Due.sensed(Due.said("a+b"), "022345");
        x.hearer(0, 4, 1);
        T.due("digest() without told", x.digest(),
            mixed(0, 2, 2, 3, 4, 5, 0, 0, 0, 0, 0, 0, 0, 4, 1, 0, 1, 0,
                0, -1, 56, 56, 0, 0, 3, 8, 2, 0, 1, 0, 0, 0, 0, 1, 0));
        Due.said(x, "b");
        x.round();
        x.tell(2);
        x.then(18);
        Due.written(x, "+");
        T.due("digest() with told", x.digest(),
            mixed(0, 2, 2, 3, 4, 5, 0, 0, 0, 0, 1, 0, 0, 4, 1, 0, 1, 1,
                0, -1, 48, 48, 0, 0, 0, 1, 1, 43, 2, 1, 8, 1, 1, 16, 2, 1, 2, 0));
        x.blank();
        x.tell(2);
        T.due("digest() with one world told", x.digest(),
            mixed(0, 2, 2, 3, 4, 5, 0, 0, 0, 0, 1, 0, 0, 4, 1, 0, 1, 1,
                0, -1, 48, 48, 0, 0, 0, 2, 0, 2, 1, 8, 1, 1, 16, 1, 0, 2, 0));
    }
}
