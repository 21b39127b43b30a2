import java.math.BigInteger;

/** The edges that promises 22 to 25 name, and those of the last passage: a test for each sentence. */
public final class EdgesOfToldTest {
    private static final Due T = new Due("EdgesOfToldTest");

    public static void main(String[] args) {
        ofTell();
        ofThen();
        ofFits();
        ofTimes();
        ofDraws();
        T.end();
    }

    private static AsWasSaid told(AsWasSaid x, int... worlds) {
        x.tell(worlds[0]);
        for (int place = 1; place < worlds.length; place++) {
            x.then(worlds[place]);
        }
        return x;
    }

    private static AsWasSaid heard(String text, int kind, int fact, int value) {
        AsWasSaid x = Due.said(text);
        x.hearer(kind, fact, value);
        return x;
    }

    // ---- promise 22

    private static void ofTell() {
        howManyThereWere();
        othersAreGone();
        tellUnknown();
    }

    private static void howManyThereWere() {
        T.sentence("22", "how many there were");
        AsWasSaid x = new AsWasSaid();
        T.due("tell(0), the first time", x.tell(0), 0);
        T.due("tell(63) behind one", x.tell(63), 1);
        told(x, 1, 2, 3, 4, 5, 6);
        T.due("tell(0) behind six", x.tell(0), 6);
        T.due("tell(0) behind one again", x.tell(0), 1);
    }

    private static void othersAreGone() {
        T.sentence("22", "TOLD begins with a WORLD (others are gone)");
        AsWasSaid x = told(heard("a", 0, 5, 1), 1, 2, 3, 4, 5, 6);
        x.tell(7);
        T.due("count(6)", x.count(6), 1);
        T.due("fits(0, 0) of one world", x.fits(0, 0), 2);
        x.then(7);
        T.due("fits(0, 0) of 7, 7: it is so", x.fits(0, 0), 2);
        x.tell(6);
        x.then(38);
        T.due("fits(0, 0) of 6, 38: it is not so", x.fits(0, 0), 2);
        T.due("count(6)", x.count(6), 2);
    }

    private static void tellUnknown() {
        T.sentence("22", "UNKNOWN: world");
        T.refusedBeside(0, 63, States::fresh, "tell(_)", AsWasSaid::tell, Due.UNKNOWN);
        T.refusedBeside(0, 63, States::rich, "tell(_)", AsWasSaid::tell, Due.UNKNOWN);
        T.refusedBeside(0, 63, States::full, "tell(_)", AsWasSaid::tell, Due.UNKNOWN);
    }

    // ---- promise 23

    private static void ofThen() {
        howManyThereAre();
        notBegun();
        thenUnknown();
        sixWorldsAtMost();
        refusalsOfThen();
    }

    private static void howManyThereAre() {
        T.sentence("23", "how many there are");
        AsWasSaid x = told(new AsWasSaid(), 0);
        int[] worlds = {0, 63, 63, 0, 32};
        for (int place = 0; place < worlds.length; place++) {
            T.due("then(" + worlds[place] + ")", x.then(worlds[place]), place + 2);
            T.due("count(6)", x.count(6), place + 2);
        }
    }

    private static void notBegun() {
        T.sentence("23", "STATE: it has not begun");
        T.refused(States::fresh, "then(0)", x -> x.then(0), Due.STATE);
        T.refused(() -> Due.said("a"), "then(63)", x -> x.then(63), Due.STATE);
        AsWasSaid x = new AsWasSaid();
        x.image();
        x.tell(0);
        T.due("then(0) behind tell()", x.then(0), 2);
        x.restore();
        T.due("then(0) behind restore() of what had none", x.then(0), Due.STATE);
    }

    private static void thenUnknown() {
        T.sentence("23", "UNKNOWN: world");
        T.refusedBeside(0, 63, States::rich, "then(_)", AsWasSaid::then, Due.UNKNOWN);
        T.refusedBeside(0, 63, States::silent, "then(_)", AsWasSaid::then, Due.UNKNOWN);
    }

    private static void sixWorldsAtMost() {
        T.sentence("23", "FULL (WORLDS: 6 at most)");
        AsWasSaid x = told(new AsWasSaid(), 1, 2, 3, 4, 5);
        T.due("then(6), the sixth", x.then(6), 6);
        T.due("then(7), the seventh", x.then(7), Due.FULL);
        T.refused(States::full, "then(0), the seventh", y -> y.then(0), Due.FULL);
        T.refused(States::full, "then(63), the seventh", y -> y.then(63), Due.FULL);
        x.tell(0);
        T.due("then(7) behind tell()", x.then(7), 2);
    }

    private static void refusalsOfThen() {
        T.sentence("23", "STATE ahead of UNKNOWN ahead of FULL");
        T.refusedBeside(0, 63, States::fresh, "then(_), not begun", AsWasSaid::then, Due.STATE);
        T.refusedBeside(0, 63, States::full, "then(_), the seventh", AsWasSaid::then, Due.UNKNOWN);
    }

    // ---- promise 24

    private static void fits(AsWasSaid x, String told, int many, int first) {
        T.due("fits(0, 0) of " + told, x.fits(0, 0), many);
        T.due("fits(0, 1) of " + told, x.fits(0, 1), first);
    }

    private static void ofFits() {
        oneWorldAlone();
        noneFits();
        eachTime();
        hadHeTakenThatOne();
        theLeast();
        hisFactIsHisValue();
        fitsUnknown();
        fitsOutside();
        fitsWithoutSaying();
        fitsNotBegun();
        refusalsOfFits();
        fitsWouldBe();
    }

    private static void oneWorldAlone() {
        T.sentence("3 FITS", "of how many READINGS it would be so (of one WORLD: of all)");
        fits(told(heard("a", 0, 0, 1), 5), "5", 2, 0);
        fits(told(heard("a+b+c+d", 4, 0, 1), 63), "63", 640, 0);
        fits(told(heard("a&na", 1, 0, 1), 0), "0", 4, 0);
    }

    private static void noneFits() {
        T.sentence("24", "what = 0 how many, 1 the least (NONE)");
        fits(told(heard("a", 0, 5, 1), 0, 1), "0, 1: not his fact", 0, Due.NONE);
        fits(told(heard("a", 0, 5, 1), 0, 0), "0, 0: he would act", 0, Due.NONE);
        fits(told(heard("a", 0, 5, 1), 1, 33), "1, 33: he would not", 0, Due.NONE);
        fits(told(heard("a", 0, 5, 0), 32, 32), "32, 32: he would act", 0, Due.NONE);
        fits(told(heard("a", 0, 5, 0), 0, 32), "0, 32: not his value", 0, Due.NONE);
    }

    private static void eachTime() {
        T.sentence("3 FITS", "had he TAKEN that one each time");
        AsWasSaid x = told(heard("a+b", 0, 5, 1), 2, 34, 2, 2);
        // by AND he acts in 2, by OR he does not: no reading does both
        fits(x, "2, 34, 2, 2", 0, Due.NONE);
        fits(told(x, 0, 32, 32, 32, 32, 32), "0, then 32 to the end", 8, 0);
        fits(told(x, 0, 32, 32, 32, 32, 33), "0, 32, .., 33: the last is wrong", 0, Due.NONE);
        fits(told(x, 2, 2, 2, 2, 2, 2), "2 six times", 4, 4);
        fits(told(x, 2, 2, 2, 2, 2, 34), "2 five times, 34", 0, Due.NONE);
        fits(told(x, 3, 3), "3, 3", 8, 0);
        fits(told(x, 0, 3, 3), "0, 3, 3: the first is wrong", 0, Due.NONE);
        fits(told(x, 3, 3, 2, 34), "3, 3, 2, 34: one between is wrong", 0, Due.NONE);
    }

    private static void hadHeTakenThatOne() {
        T.sentence("3 FITS", "had he TAKEN that one (whichever his KIND takes)");
        for (int kind = 0; kind <= 3; kind++) {
            fits(told(heard("a+b", kind, 5, 1), 2, 34), "2, 34, kind " + kind, 4, 0);
            fits(told(heard("a+b", kind, 5, 1), 2, 2), "2, 2, kind " + kind, 4, 4);
        }
        fits(told(heard("a+b", 4, 5, 1), 2, 34), "2, 34, an abbot", 4, 4);
        fits(told(heard("a+b", 4, 5, 1), 2, 2), "2, 2, an abbot", 4, 0);
    }

    private static void theLeast() {
        T.sentence("3 FITS", "of like ones the least");
        AsWasSaid x = Due.sensed(heard("a", 0, 5, 1), "112345");
        fits(told(x, 2, 2), "2, 2: b alone, the last reading", 1, 1);
        fits(told(x, 1, 1), "1, 1: a alone, the first reading", 1, 0);
        fits(told(x, 3, 3), "3, 3: both", 2, 0);
        fits(told(Due.said(x, "a&a"), 2, 2), "2, 2: b and b", 1, 3);
    }

    private static void hisFactIsHisValue() {
        T.sentence("3 FITS", "so (his FACT is his VALUE already: he acts or not)");
        fits(told(heard("a+b", 0, 5, 1), 32, 32), "32, 32", 8, 0);
        fits(told(heard("a+b", 4, 5, 0), 3, 3, 3), "3, 3, 3, an abbot", 8, 0);
    }

    private static void fitsUnknown() {
        T.sentence("24", "UNKNOWN");
        T.refused(() -> told(Due.said("a"), 0), "fits(0, 0), nobody hears", x -> x.fits(0, 0), Due.UNKNOWN);
        T.refusedBeside(0, 2, States::rich, "fits(_, 0)", (x, hearer) -> x.fits(hearer, 0), Due.UNKNOWN);
        T.refusedBeside(0, 3, States::full, "fits(_, 1)", (x, hearer) -> x.fits(hearer, 1), Due.UNKNOWN);
    }

    private static void fitsOutside() {
        T.sentence("24", "OUTSIDE");
        T.refusedBeside(0, 1, States::rich, "fits(0, _)", (x, what) -> x.fits(0, what), Due.OUTSIDE);
        T.refusedBeside(0, 1, States::rich, "fits(2, _)", (x, what) -> x.fits(2, what), Due.OUTSIDE);
    }

    private static void fitsWithoutSaying() {
        T.sentence("24", "STATE: no SAYING");
        T.refused(States::silent, "fits(0, 0)", x -> x.fits(0, 0), Due.STATE);
        T.refused(States::silent, "fits(2, 1)", x -> x.fits(2, 1), Due.STATE);
    }

    private static void fitsNotBegun() {
        T.sentence("24", "STATE: .. or TOLD has not begun");
        T.refused(() -> heard("a", 0, 0, 1), "fits(0, 0)", x -> x.fits(0, 0), Due.STATE);
        T.refused(() -> heard("a", 4, 0, 1), "fits(0, 1)", x -> x.fits(0, 1), Due.STATE);
        AsWasSaid x = heard("a", 0, 0, 1);
        x.image();
        x.tell(0);
        T.due("fits(0, 0) behind tell()", x.fits(0, 0), 2);
        x.restore();
        T.due("fits(0, 0) behind restore() of what had none", x.fits(0, 0), Due.STATE);
    }

    private static void refusalsOfFits() {
        T.sentence("24", "UNKNOWN ahead of OUTSIDE ahead of STATE");
        T.refused(States::fresh, "fits(0, 2), nobody hears", x -> x.fits(0, 2), Due.UNKNOWN);
        T.refused(States::silent, "fits(3, 2), no saying", x -> x.fits(3, 2), Due.UNKNOWN);
        T.refused(States::silent, "fits(0, 2), no saying", x -> x.fits(0, 2), Due.OUTSIDE);
        T.refused(() -> heard("a", 0, 0, 1), "fits(0, -1), not begun", x -> x.fits(0, -1), Due.OUTSIDE);
        T.refused(() -> heard("a", 0, 0, 1), "fits(1, 0), not begun", x -> x.fits(1, 0), Due.UNKNOWN);
    }

    private static void fitsWouldBe() {
        T.sentence("3 FITS", "it would be so (THE WORLD stays what it is)");
        AsWasSaid x = States.rich();
        long before = x.digest();
        x.fits(0, 0);
        x.fits(1, 1);
        T.due("digest() behind it", x.digest(), before);
    }

    // ---- promise 25

    private static void times(AsWasSaid x, int times, int seed, int world, int often, int then) {
        String call = "times(" + times + ", " + seed + ", ";
        T.due(call + "0)", x.times(times, seed, 0), world);
        T.due(call + "1)", x.times(times, seed, 1), often);
        T.due(call + "2)", x.times(times, seed, 2), then);
    }

    private static void ofTimes() {
        soMany();
        theOtherOne();
        howOften();
        behindRounds();
        asTheyWouldBe();
        timesOutside();
        timesWithoutSaying();
        timesOutsideAheadOfState();
    }

    private static void soMany() {
        T.sentence("25", "TIMES (1 to 60)");
        for (int times : new int[] {1, 2, 59, 60}) {
            Drawn drawn = new Drawn(77, times);
            times(Due.said("a"), times, 77, drawn.world, drawn.oftenFactNone, drawn.seed);
        }
    }

    private static void theOtherOne() {
        T.sentence("3 TIMES", "1 the FACT by a DRAW of 6 becomes the other one");
        boolean[] drawnFacts = new boolean[6];
        for (int seed = 0; seed < 60; seed++) {
            Drawn drawn = new Drawn(seed, 1);
            AsWasSaid x = Due.said("f");
            T.due("times(1, " + seed + ", 0) in 0", x.times(1, seed, 0), drawn.world);
            T.due("times(1, " + seed + ", 0) in 63", Due.in(x, 63).times(1, seed, 0), 63 - drawn.world);
            for (int fact = 0; fact < 6; fact++) {
                drawnFacts[fact] |= drawn.world == 1 << fact;
            }
        }
        for (int fact = 0; fact < 6; fact++) {
            T.due("fact " + fact + " was drawn", drawnFacts[fact] ? 1 : 0, 1);
        }
    }

    private static void howOften() {
        T.sentence("25", "1 how often (never; each time)");
        T.due("times(60, 3, 1) of a&na", Due.said("a&na").times(60, 3, 1), 0);
        T.due("times(60, 3, 1) of a+na", Due.said("a+na").times(60, 3, 1), 60);
        T.due("times(1, 0, 1) of na: a round of nobody", Due.said("na").times(1, 0, 1), 1);
        T.due("times(1, 0, 1) of a: a round of nobody", Due.said("a").times(1, 0, 1), 0);
        AsWasSaid x = Due.sensed(Due.said("f"), "012340");
        T.due("times(1, 0, 1) of f in 1: by its second sense", Due.in(x, 1).times(1, 0, 1), 1);
    }

    private static void behindRounds() {
        T.sentence("3 TIMES", "0 a ROUND; how often some READING was so then");
        AsWasSaid x = heard("f", 0, 5, 1);
        times(x, 1, 0, 32, 1, 12345);
        x.hearer(4, 0, 1);
        x.hearer(4, 5, 0);
        times(x, 1, 0, 1, 0, 12345);
    }

    private static void asTheyWouldBe() {
        T.sentence("3 TIMES", "as they would be");
        AsWasSaid x = States.rich();
        long before = x.digest();
        int first = x.times(60, 9, 0);
        T.due("times(60, 9, 0) again", x.times(60, 9, 0), first);
        x.times(60, 9, 1);
        x.times(60, 9, 2);
        T.due("digest() behind it", x.digest(), before);
        AsWasSaid y = heard("f", 0, 0, 1);
        T.due("times(1, 0, 0): a round", y.times(1, 0, 0), 1);
        T.due("count(5): what a round would change", y.count(5), 0);
        T.due("about(0, 5)", y.about(0, 5), 0);
        T.due("count(4)", y.count(4), 0);
    }

    private static void timesOutside() {
        T.sentence("25", "OUTSIDE: times (1 to 60), seed (0 at least), what");
        T.refusedBeside(1, 60, States::rich, "times(_, 0, 0)", (x, times) -> x.times(times, 0, 0), Due.OUTSIDE);
        for (int seed : new int[] {-1, -2, -65536, Integer.MIN_VALUE}) {
            T.refused(States::rich, "times(1, " + seed + ", 0)", x -> x.times(1, seed, 0), Due.OUTSIDE);
        }
        T.refusedBeside(0, 2, States::rich, "times(1, 0, _)", (x, what) -> x.times(1, 0, what), Due.OUTSIDE);
    }

    private static void timesWithoutSaying() {
        T.sentence("25", "STATE: no SAYING");
        for (int what = 0; what <= 2; what++) {
            int number = what;
            T.refused(States::fresh, "times(1, 0, " + what + ")", x -> x.times(1, 0, number), Due.STATE);
            T.refused(States::silent, "times(60, 5, " + what + ")", x -> x.times(60, 5, number), Due.STATE);
        }
    }

    private static void timesOutsideAheadOfState() {
        T.sentence("25", "OUTSIDE ahead of STATE");
        T.refused(States::silent, "times(0, 0, 0)", x -> x.times(0, 0, 0), Due.OUTSIDE);
        T.refused(States::silent, "times(61, 0, 0)", x -> x.times(61, 0, 0), Due.OUTSIDE);
        T.refused(States::silent, "times(1, -1, 0)", x -> x.times(1, -1, 0), Due.OUTSIDE);
        T.refused(States::silent, "times(1, 0, 3)", x -> x.times(1, 0, 3), Due.OUTSIDE);
    }

    // ---- draws

    private static void ofDraws() {
        leastAndMostSeeds();
        restByTwoToThe31();
        roundedDown();
    }

    private static void leastAndMostSeeds() {
        T.sentence("25", "seed (0 at least)");
        AsWasSaid x = Due.said("na");
        times(x, 1, 0, 0, 1, 12345);
        for (int seed : new int[] {0, 1, Integer.MAX_VALUE - 1, Integer.MAX_VALUE}) {
            Drawn drawn = new Drawn(seed, 60);
            times(x, 60, seed, drawn.world, 60 - drawn.oftenFactNone, drawn.seed);
        }
    }

    private static void restByTwoToThe31() {
        T.sentence("3 DRAWS", "1103515245 times it and 12345, its rest by 2 to the 31");
        AsWasSaid x = Due.said("a");
        for (int seed : new int[] {1, 2, 3, 4, 65535, 65536, 1 << 30, 2000000000, Integer.MAX_VALUE}) {
            Drawn drawn = new Drawn(seed, 1);
            T.due("times(1, " + seed + ", 2)", x.times(1, seed, 2), drawn.seed);
        }
    }

    private static void roundedDown() {
        T.sentence("3 DRAWS", "then that by 65536 (rounded down), its rest");
        int rounds = 0;
        for (int seed = 0; seed < 100; seed++) {
            Drawn drawn = new Drawn(seed, 1);
            rounds += drawn.world == 0 ? 1 : 0;
            T.due("times(1, " + seed + ", 0)", Due.said("a").times(1, seed, 0), drawn.world);
        }
        T.due("both draws of 2 came", rounds > 20 && rounds < 80 ? 1 : 0, 1);
    }

    /** The draws once more, in whole numbers that do not wrap: nobody hears, from world 0. */
    private static final class Drawn {
        private static final BigInteger FACTOR = BigInteger.valueOf(1103515245L);
        private static final BigInteger MORE = BigInteger.valueOf(12345L);
        private static final BigInteger REST = BigInteger.TWO.pow(31);
        private static final BigInteger PART = BigInteger.valueOf(65536L);
        private int seed;
        private int world;
        private int oftenFactNone;

        Drawn(int seed, int times) {
            this.seed = seed;
            for (int time = 0; time < times; time++) {
                if (draw(2) == 1) {
                    world ^= 1 << draw(6);
                }
                oftenFactNone += world & 1;
            }
        }

        private int draw(int ways) {
            seed = FACTOR.multiply(BigInteger.valueOf(seed)).add(MORE).mod(REST).intValueExact();
            return BigInteger.valueOf(seed).divide(PART).mod(BigInteger.valueOf(ways)).intValueExact();
        }
    }
}
