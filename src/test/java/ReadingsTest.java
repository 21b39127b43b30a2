/** Promises 8 to 10: reading, isSo, come. */
public final class ReadingsTest {
    private static final Due T = new Due("ReadingsTest");

    public static void main(String[] args) {
        ofOneWord();
        ofTwoWords();
        ofThreeWords();
        ofFourWords();
        refusals();
        come();
        T.end();
    }

    private static void ofOneWord() {
        AsWasSaid x = Due.sensed(Due.said("c"), "010345");
        T.due("c: reading(0)", x.reading(0), 32);
        T.due("c: isSo(0, 4)", x.isSo(0, 4), 1);
        T.due("c: isSo(0, 1)", x.isSo(0, 1), 0);
        T.due("c: isSo(1, 4), as fact 0", x.isSo(1, 4), 0);
        T.due("c: isSo(1, 1), as fact 0", x.isSo(1, 1), 1);
        Due.said(x, "nc");
        for (int world = 0; world < 64; world++) {
            T.due("nc: isSo(0, " + world + ")", x.isSo(0, world), 1 - ((world >> 2) & 1));
            T.due("nc: isSo(1, " + world + ")", x.isSo(1, world), 1 - (world & 1));
        }
    }

    private static void ofTwoWords() {
        AsWasSaid x = Due.sensed(Due.said("a+b"), "232345");
        for (int way = 0; way < 4; way++) {
            int first = (way & 1) == 0 ? 0 : 2;
            int second = (way & 2) == 0 ? 1 : 3;
            int both = (1 << first) | (1 << second);
            T.due("a+b: reading(" + way + ")", x.reading(way), 16);
            T.due("a+b: reading(" + (way + 4) + ")", x.reading(way + 4), 48);
            T.due("a+b: isSo of both", x.isSo(way, both), 1);
            T.due("a+b: isSo of the first alone", x.isSo(way, 1 << first), 0);
            T.due("a+b: isSo of all but the first", x.isSo(way, 63 ^ (1 << first)), 0);
            T.due("a+b: isSo of the first, or", x.isSo(way + 4, 1 << first), 1);
            T.due("a+b: isSo of the second, or", x.isSo(way + 4, 1 << second), 1);
            T.due("a+b: isSo of neither, or", x.isSo(way + 4, 63 ^ both), 0);
        }
        Due.said(x, "a&b");
        T.due("a&b: reading(0)", x.reading(0), 16);
        T.due("a&b: reading(3)", x.reading(3), 16);
        T.due("a&b: reading(4)", x.reading(4), Due.UNKNOWN);
    }

    private static void ofThreeWords() {
        AsWasSaid x = Due.said("a+b&c");
        T.due("(a and b) and c", x.reading(0), 8);
        T.due("(a or b) and c", x.reading(8), 24);
        T.due("a and (b and c)", x.reading(16), 8);
        T.due("a or (b and c)", x.reading(24), 40);
        Due.said(x, "a&b+c");
        T.due("(a and b) or c", x.reading(8), 40);
        T.due("a and (b or c)", x.reading(24), 24);
        Due.said(x, "a+b+c");
        T.due("((a or b) and c)", x.reading(8), 24);
        T.due("((a and b) or c)", x.reading(16), 40);
        T.due("((a or b) or c)", x.reading(24), 56);
        T.due("(a or (b and c))", x.reading(40), 40);
        T.due("(a and (b or c))", x.reading(48), 24);
        T.due("(a or (b or c))", x.reading(63), 56);
        Due.sensed(x, "013345");
        T.due("c's second in ((a or b) and c), world 5", x.isSo(8 + 4, 5), 0);
        T.due("c's second in ((a or b) and c), world 9", x.isSo(8 + 4, 9), 1);
        T.due("b's second is its first", x.isSo(8 + 2, 5), 1);
    }

    private static void ofFourWords() {
        AsWasSaid x = Due.said("a+b&c+d");
        int[][] want = {
            {4, 12, 36, 44}, {4, 20, 36, 52}, {4, 12, 12, 36}, {4, 36, 20, 52}, {4, 36, 12, 44}
        };
        for (int brackets = 0; brackets < 5; brackets++) {
            for (int way = 0; way < 4; way++) {
                int reading = brackets * 64 + way * 16;
                T.due("a+b&c+d: reading(" + reading + ")", x.reading(reading), want[brackets][way]);
                T.due("a+b&c+d: reading(" + (reading + 15) + ")", x.reading(reading + 15), want[brackets][way]);
            }
        }
        T.due("(((a or b) and c) or d) in a alone", x.isSo(48, 1), 0);
        T.due("(a or (b and (c or d))) in a alone", x.isSo(256 + 48, 1), 1);
        T.due("reading(319)", x.reading(319), 44);
        T.due("reading(320)", x.reading(320), Due.UNKNOWN);
    }

    private static void refusals() {
        AsWasSaid x = new AsWasSaid();
        T.refused(x, "reading(0), no saying", x.digest(), x.reading(0), Due.UNKNOWN);
        T.refused(x, "reading(-1), no saying", x.digest(), x.reading(-1), Due.UNKNOWN);
        T.refused(x, "isSo(0, 0), no saying", x.digest(), x.isSo(0, 0), Due.UNKNOWN);
        Due.said(x, "a");
        T.refused(x, "reading(-1)", x.digest(), x.reading(-1), Due.UNKNOWN);
        T.refused(x, "reading(2)", x.digest(), x.reading(2), Due.UNKNOWN);
        T.refused(x, "isSo(-1, 0)", x.digest(), x.isSo(-1, 0), Due.UNKNOWN);
        T.refused(x, "isSo(2, 0)", x.digest(), x.isSo(2, 0), Due.UNKNOWN);
        T.refused(x, "isSo(0, -1)", x.digest(), x.isSo(0, -1), Due.UNKNOWN);
        T.refused(x, "isSo(0, 64)", x.digest(), x.isSo(0, 64), Due.UNKNOWN);
        T.due("isSo(1, 63)", x.isSo(1, 63), 1);
        T.due("isSo(1, 0)", x.isSo(1, 0), 0);
        Due.said(x, "a+b+c+d");
        T.due("reading(639)", x.reading(639), 60);
        T.due("reading(640)", x.reading(640), Due.UNKNOWN);
        Due.said(x, "a");
        T.due("reading(2) of the shorter one", x.reading(2), Due.UNKNOWN);
    }

    private static void come() {
        AsWasSaid x = new AsWasSaid();
        T.refused(x, "come(0), no saying", x.digest(), x.come(0), Due.STATE);
        T.refused(x, "come(1), no saying", x.digest(), x.come(1), Due.STATE);
        T.refused(x, "come(2), no saying", x.digest(), x.come(2), Due.OUTSIDE);
        Due.said(x, "a+b");
        T.refused(x, "come(-1)", x.digest(), x.come(-1), Due.OUTSIDE);
        T.refused(x, "come(2)", x.digest(), x.come(2), Due.OUTSIDE);
        T.due("a+b in 0: come(0)", x.come(0), 0);
        T.due("a+b in 0: come(1)", x.come(1), Due.NONE);
        x.set(1, 1);
        T.due("a+b in 2: come(0)", x.come(0), 4);
        T.due("a+b in 2: come(1)", x.come(1), 4);
        x.set(0, 1);
        T.due("a+b in 3: come(0)", x.come(0), 8);
        T.due("a+b in 3: come(1)", x.come(1), 0);
        Due.sensed(Due.in(x, 6), "212345");
        T.due("a+b in 6, a as c: come(0)", x.come(0), 6);
        T.due("a+b in 6, a as c: come(1)", x.come(1), 1);
    }
}
