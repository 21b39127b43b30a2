/** The edges that promises 8 to 10 name, and those of readings that the terms tell: a test for each sentence. */
public final class EdgesOfReadingsTest {
    private static final Due T = new Due("EdgesOfReadingsTest");

    public static void main(String[] args) {
        ofReadings();
        ofNumbers();
        ofBrackets();
        ofReading();
        ofIsSo();
        ofTrue();
        ofCome();
        T.end();
    }

    // ---- how many readings there are

    private static void readings(String text, int want) {
        AsWasSaid x = Due.said(text);
        T.due("count(0) of " + text, x.count(0), want);
        T.due("reading(the last one) of " + text, x.reading(want - 1) >= 0 ? 1 : 0, 1);
        T.due("reading(behind the last one) of " + text, x.reading(want), Due.UNKNOWN);
    }

    private static void ofReadings() {
        forEachWord();
        forEachPlus();
        howItIsBracketed();
        allOfThemCount();
    }

    private static void forEachWord() {
        T.sentence("Terms", "for each WORD one of both SENSES");
        readings("a", 2);
        readings("a&b", 4);
        readings("a&b&c", 2 * 8);
        readings("a&b&c&d", 5 * 16);
        readings("na&nb&nc&nd", 5 * 16);
    }

    private static void forEachPlus() {
        T.sentence("Terms", "for each \"+\" AND or OR");
        readings("a+b", 2 * 4);
        readings("a+b&c", 2 * 2 * 8);
        readings("a&b+c", 2 * 2 * 8);
        readings("a+b+c", 2 * 4 * 8);
        readings("a&b&c+d", 5 * 2 * 16);
        readings("a+b&c+d", 5 * 4 * 16);
        readings("a+b+c+d", 5 * 8 * 16);
        T.due("reading(3) of a+b: both", Due.said("a+b").reading(3), 16);
        T.due("reading(4) of a+b: one of them", Due.said("a+b").reading(4), 48);
        T.due("reading(3) of a&b", Due.said("a&b").reading(3), 16);
    }

    private static void howItIsBracketed() {
        T.sentence("Terms", "and how it is bracketed");
        readings("f", 2);
        readings("f&e", 4);
        readings("f&e&d", 16);
        readings("f&e&d&c", 80);
    }

    private static void allOfThemCount() {
        T.sentence("Terms", "all of them count, also if they say the same");
        readings("a&a", 4);
        readings("a+a+a+a", 640);
        AsWasSaid x = Due.in(Due.said("a"), 1);
        T.due("come(0) of a in 1, both senses alike", x.come(0), 2);
        Due.said(x, "a+a+a+a");
        T.due("come(0) of a+a+a+a in 1", x.come(0), 640);
        x.hearer(0, 0, 1);
        x.tell(1);
        T.due("fits(0, 0) of a+a+a+a", x.fits(0, 0), 640);
    }

    // ---- how they are numbered

    private static void ofNumbers() {
        waysTogether();
        bitOfWord();
        bitOfPlus();
    }

    private static void waysTogether() {
        T.sentence("Terms", "BRACKETS times all ways .., the ways of \"+\" times all ways of SENSES, .. together");
        AsWasSaid x = Due.sensed(Due.said("a&b+c"), "345345");
        // the first sense of c alone is c, the second one f
        T.due("brackets 0, AND, first senses", x.isSo(0, 7), 1);
        T.due("brackets 0, OR, first senses, in c", x.isSo(8, 4), 1);
        T.due("brackets 0, OR, second of c, in c", x.isSo(8 + 4, 4), 0);
        T.due("brackets 0, OR, second of c, in f", x.isSo(8 + 4, 32), 1);
        T.due("brackets 1, AND, all second, in d, e, f", x.isSo(16 + 7, 56), 1);
        T.due("brackets 1, OR, first senses, in c", x.isSo(16 + 8, 4), 0);
        T.due("brackets 1, OR, first senses, in a, c", x.isSo(16 + 8, 5), 1);
        T.due("brackets 1, OR, second of a, in c, d", x.isSo(16 + 8 + 1, 12), 1);
        T.due("the last one, in d, f", x.isSo(31, 40), 1);
        T.due("the last one, in e, f", x.isSo(31, 48), 0);
    }

    private static void bitOfWord() {
        T.sentence("Terms", "bit k, if WORD k (from 0) has its second one");
        String[] words = {"a", "b", "c", "d"};
        for (int number = 1; number <= 4; number++) {
            String text = String.join("&", java.util.Arrays.copyOf(words, number));
            AsWasSaid x = Due.sensed(Due.said(text), "444445");
            for (int way = 0; way < 1 << number; way++) {
                int needed = 0;
                for (int word = 0; word < number; word++) {
                    needed |= (way >> word & 1) == 1 ? 16 : 1 << word;
                }
                T.due("isSo(" + way + ", what it needs) of " + text, x.isSo(way, needed), 1);
                T.due("reading(" + way + ") of " + text, x.reading(way), 64 >> Integer.bitCount(needed));
            }
        }
    }

    private static void bitOfPlus() {
        T.sentence("Terms", "bit i, if the i-th \"+\" (from 0) is OR");
        AsWasSaid x = Due.said("a&b+c+d");
        // brackets 0: ((a and b) . c) . d
        for (int way = 0; way < 4; way++) {
            T.due("a, b, d: way " + way, x.isSo(way * 16, 11), way == 0 ? 0 : 1);
            T.due("c, d: way " + way, x.isSo(way * 16, 12), way == 0 ? 0 : 1);
            T.due("d: way " + way, x.isSo(way * 16, 8), way >= 2 ? 1 : 0);
            T.due("c: way " + way, x.isSo(way * 16, 4), way == 3 ? 1 : 0);
        }
        Due.said(x, "a+b&c+d");
        T.due("a, c, d: the first + is OR", x.isSo(16, 13), 1);
        T.due("d: the first + is OR", x.isSo(16, 8), 0);
        T.due("d: the second + is OR", x.isSo(32, 8), 1);
        T.due("a, c: the second + is OR", x.isSo(32, 5), 0);
        T.due("a, c: both are OR", x.isSo(48, 5), 1);
    }

    // ---- brackets

    private static boolean join(boolean or, boolean left, boolean right) {
        return or ? left || right : left && right;
    }

    private static void ofBrackets() {
        ofThree();
        ofFour();
        ofFewer();
    }

    private static void ofThree() {
        T.sentence("Terms", "BRACKETS: of three WORDS 0 ((1 2) 3), 1 (1 (2 3))");
        AsWasSaid x = Due.said("a+b+c");
        for (int way = 0; way < 4; way++) {
            boolean i = (way & 1) == 1;
            boolean j = (way & 2) == 2;
            for (int world = 0; world < 8; world++) {
                boolean a = (world & 1) != 0;
                boolean b = (world & 2) != 0;
                boolean c = (world & 4) != 0;
                T.due("((1 2) 3), way " + way + ", world " + world,
                    x.isSo(way * 8, world), join(j, join(i, a, b), c) ? 1 : 0);
                T.due("(1 (2 3)), way " + way + ", world " + world,
                    x.isSo(32 + way * 8, world), join(i, a, join(j, b, c)) ? 1 : 0);
            }
        }
    }

    private static void ofFour() {
        T.sentence("Terms", "of four 0 (((1 2) 3) 4), 1 ((1 (2 3)) 4), 2 ((1 2) (3 4)), 3 (1 ((2 3) 4)), 4 (1 (2 (3 4)))");
        AsWasSaid x = Due.said("a+b+c+d");
        for (int way = 0; way < 8; way++) {
            boolean i = (way & 1) == 1;
            boolean j = (way & 2) == 2;
            boolean k = (way & 4) == 4;
            for (int world = 0; world < 16; world++) {
                boolean a = (world & 1) != 0;
                boolean b = (world & 2) != 0;
                boolean c = (world & 4) != 0;
                boolean d = (world & 8) != 0;
                boolean[] want = {
                    join(k, join(j, join(i, a, b), c), d),
                    join(k, join(i, a, join(j, b, c)), d),
                    join(j, join(i, a, b), join(k, c, d)),
                    join(i, a, join(k, join(j, b, c), d)),
                    join(i, a, join(j, b, join(k, c, d)))
                };
                for (int brackets = 0; brackets < 5; brackets++) {
                    T.due("brackets " + brackets + ", way " + way + ", world " + world,
                        x.isSo(brackets * 128 + way * 16, world), want[brackets] ? 1 : 0);
                }
            }
        }
    }

    private static void ofFewer() {
        T.sentence("Terms", "of fewer 0");
        readings("a", 2);
        readings("a&b", 4);
        readings("a+b", 8);
    }

    // ---- promise 8

    private static void ofReading() {
        inHowManyWorlds();
        readingUnknown();
        readingWithoutSaying();
    }

    private static void inHowManyWorlds() {
        T.sentence("8", "In how many WORLDS a READING is so");
        AsWasSaid x = Due.said("a+na");
        T.due("reading(0) of a+na: in none", x.reading(0), 0);
        T.due("reading(4) of a+na: in all", x.reading(4), 64);
        Due.said(x, "f");
        T.due("reading(1) of f: in half of them", x.reading(1), 32);
        Due.said(x, "a+b+c+d");
        T.due("reading(0) of four", x.reading(0), 4);
        T.due("reading(639) of four", x.reading(639), 60);
    }

    private static void readingUnknown() {
        T.sentence("8", "UNKNOWN: reading");
        AsWasSaid x = Due.said("a+b+c+d");
        T.due("reading(639)", x.reading(639), 60);
        T.due("reading(640)", x.reading(640), Due.UNKNOWN);
        Due.said(x, "a");
        T.due("reading(1) of a short one behind it", x.reading(1), 32);
        T.refusedBeside(0, 1, () -> Due.said(Due.said("a+b+c+d"), "a"), "reading(_)", AsWasSaid::reading, Due.UNKNOWN);
        T.refusedBeside(0, 31, States::rich, "reading(_)", AsWasSaid::reading, Due.UNKNOWN);
    }

    private static void readingWithoutSaying() {
        T.sentence("8", "(without a SAYING, too)");
        T.refused(States::fresh, "reading(0)", x -> x.reading(0), Due.UNKNOWN);
        T.refused(States::silent, "reading(0)", x -> x.reading(0), Due.UNKNOWN);
        T.refused(States::silent, "reading(-1)", x -> x.reading(-1), Due.UNKNOWN);
    }

    // ---- promise 9

    private static void ofIsSo() {
        oneOrNone();
        isSoUnknown();
    }

    private static void oneOrNone() {
        T.sentence("9", "Whether a READING is so in a WORLD (1, 0)");
        AsWasSaid x = Due.said("f");
        T.due("f: isSo(0, 0)", x.isSo(0, 0), 0);
        T.due("f: isSo(0, 31)", x.isSo(0, 31), 0);
        T.due("f: isSo(0, 32)", x.isSo(0, 32), 1);
        T.due("f: isSo(1, 63)", x.isSo(1, 63), 1);
        Due.said(x, "nf");
        T.due("nf: isSo(0, 0)", x.isSo(0, 0), 1);
        T.due("nf: isSo(1, 63)", x.isSo(1, 63), 0);
        T.due("count(5): THE WORLD is another", x.count(5), 0);
    }

    private static void isSoUnknown() {
        T.sentence("9", "UNKNOWN: reading, world");
        T.refusedBeside(0, 31, States::rich, "isSo(_, 0)", (x, reading) -> x.isSo(reading, 0), Due.UNKNOWN);
        T.refusedBeside(0, 63, States::rich, "isSo(0, _)", (x, world) -> x.isSo(0, world), Due.UNKNOWN);
        T.refused(States::rich, "isSo(32, 64)", x -> x.isSo(32, 64), Due.UNKNOWN);
        T.refused(States::fresh, "isSo(0, 0) without a saying", x -> x.isSo(0, 0), Due.UNKNOWN);
        T.refused(States::silent, "isSo(0, 63) without a saying", x -> x.isSo(0, 63), Due.UNKNOWN);
    }

    // ---- promise 10

    private static void ofTrue() {
        T.sentence("2 TRUE", "by how many READINGS the SAYING is so in THE WORLD; the first of them");
        AsWasSaid x = Due.sensed(Due.said("a+b"), "232345");
        int[] many = {0, 2, 2, 4, 2, 4};
        int[] first = {Due.NONE, 4, 4, 0, 5, 4};
        for (int world = 0; world < 6; world++) {
            Due.in(x, world);
            T.due("come(0) in " + world, x.come(0), many[world]);
            T.due("come(1) in " + world, x.come(1), first[world]);
        }
    }

    private static void ofCome() {
        howMany();
        firstOrNone();
        comeOutside();
        comeWithoutSaying();
        outsideAheadOfState();
    }

    private static void howMany() {
        T.sentence("10", "what = 0 how many");
        AsWasSaid x = Due.said("a+b+c+d");
        T.due("come(0) in 0: by none", x.come(0), 0);
        T.due("come(0) in 63: by all", Due.in(x, 63).come(0), 640);
        Due.said(x, "na&a");
        T.due("come(0) of na&a", x.come(0), 0);
    }

    private static void firstOrNone() {
        T.sentence("10", "1 the first (NONE)");
        AsWasSaid x = Due.sensed(Due.said("a&b&c&d"), "444445");
        T.due("come(1) in 0: by none", x.come(1), Due.NONE);
        T.due("come(1) in 15: by reading 0", Due.in(x, 15).come(1), 0);
        T.due("come(1) in 16: all second senses", Due.in(x, 16).come(1), 15);
        Due.sensed(Due.said(x, "a+b"), "232345");
        T.due("come(1) in 8: b's second or", Due.in(x, 8).come(1), 6);
        T.due("come(1) in 4: a's second or", Due.in(x, 4).come(1), 5);
        Due.said(x, "f");
        Due.sensed(x, "012340");
        T.due("come(1) in 1: the last one alone", Due.in(x, 1).come(1), 1);
    }

    private static void comeOutside() {
        T.sentence("10", "OUTSIDE");
        T.refusedBeside(0, 1, States::rich, "come(_)", AsWasSaid::come, Due.OUTSIDE);
    }

    private static void comeWithoutSaying() {
        T.sentence("10", "STATE");
        for (int what = 0; what <= 1; what++) {
            int number = what;
            T.refused(States::fresh, "come(" + what + ")", x -> x.come(number), Due.STATE);
            T.refused(States::silent, "come(" + what + ")", x -> x.come(number), Due.STATE);
        }
    }

    private static void outsideAheadOfState() {
        T.sentence("10", "OUTSIDE ahead of STATE");
        T.refusedBeside(0, 1, States::silent, "come(_) without a saying", AsWasSaid::come, Due.OUTSIDE);
    }
}
