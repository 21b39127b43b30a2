/** The edges that promises 18 to 21 name, and those of the passage behind the terms: a test for each sentence. */
public final class EdgesOfWhatWouldBeTest {
    private static final Due T = new Due("EdgesOfWhatWouldBeTest");

    public static void main(String[] args) {
        ofAnyhow();
        ofLeft();
        ofAsk();
        ofAdd();
        T.end();
    }

    // ---- promise 18

    private static void ofAnyhow() {
        fromNoneToAll();
        someReadingIsSo();
        behindARound();
        anyhowWouldBe();
        anyhowWithoutSaying();
    }

    private static void fromNoneToAll() {
        T.sentence("2 ANYHOW", "from how many WORLDS (none of them; all of them)");
        AsWasSaid x = Due.said("a&na");
        T.due("anyhow() of a&na, nobody hears", x.anyhow(), 0);
        x.hearer(0, 0, 1);
        T.due("anyhow() of a&na", x.anyhow(), 0);
        Due.said(x, "a+na");
        T.due("anyhow() of a+na", x.anyhow(), 64);
        Due.said(x, "a");
        T.due("anyhow() of a: he makes it so", x.anyhow(), 64);
        x.hearer(4, 0, 0);
        T.due("anyhow() of a: an abbot undoes it", x.anyhow(), 0);
    }

    private static void someReadingIsSo() {
        T.sentence("2 ANYHOW", "some READING is so");
        AsWasSaid x = Due.sensed(Due.said("a&b"), "212345");
        T.due("anyhow() of a or c, and b", x.anyhow(), 24);
        Due.sensed(x, "012345");
        T.due("anyhow() of a and b", x.anyhow(), 16);
        Due.said(x, "a+b");
        T.due("anyhow() of a or b", x.anyhow(), 48);
    }

    private static void behindARound() {
        T.sentence("2 ANYHOW", "behind a ROUND (one, by number)");
        AsWasSaid x = Due.said("a&b");
        x.hearer(0, 0, 1);
        T.due("anyhow(): from those with b", x.anyhow(), 32);
        AsWasSaid y = Due.said("f");
        y.hearer(4, 1, 1);
        y.hearer(0, 5, 1);
        y.hearer(4, 0, 1);
        T.due("anyhow() of f", y.anyhow(), 64);
        AsWasSaid z = Due.said("a");
        z.hearer(4, 0, 0);
        z.hearer(0, 0, 1);
        T.due("anyhow() of a: the abbot ahead of the hearer", z.anyhow(), 64);
        AsWasSaid once = Due.sensed(Due.said("a"), "112345");
        once.hearer(0, 1, 1);
        once.hearer(1, 0, 0);
        // from a alone the fool undoes a; in one round more the hearer would do b
        T.due("anyhow() of a, or b: one round", once.anyhow(), 48);
    }

    private static void anyhowWouldBe() {
        T.sentence("2 ANYHOW", "from how many WORLDS .. (THE WORLD stays what it is)");
        AsWasSaid x = States.rich();
        long before = x.digest();
        int first = x.anyhow();
        T.due("anyhow() again", x.anyhow(), first);
        T.due("digest() behind it", x.digest(), before);
        T.due("anyhow() in another world", Due.in(x, 63).anyhow(), first);
        AsWasSaid y = Due.said("f");
        y.hearer(0, 0, 1);
        y.anyhow();
        T.due("count(5): what a round would change", y.count(5), 0);
        T.due("about(0, 5)", y.about(0, 5), 0);
    }

    private static void anyhowWithoutSaying() {
        T.sentence("18", "STATE");
        T.refused(States::fresh, "anyhow()", AsWasSaid::anyhow, Due.STATE);
        T.refused(States::silent, "anyhow()", AsWasSaid::anyhow, Due.STATE);
    }

    // ---- promise 19

    private static void left(AsWasSaid x, String of, int many, int all, int none) {
        T.due("left(0) of " + of, x.left(0), many);
        T.due("left(1) of " + of, x.left(1), all);
        T.due("left(2) of " + of, x.left(2), none);
    }

    private static void ofLeft() {
        ifThereIsNoOther();
        noWorldsLeft();
        allWorldsLeft();
        someReadingOfBoth();
        inAllInNone();
        leftOutside();
        leftWithoutSaying();
        leftOutsideAheadOfState();
    }

    private static void ifThereIsNoOther() {
        T.sentence("2 LEFT", "if there is none, nothing more is asked");
        left(Due.said("a&nf"), "a&nf alone", 16, 1, 32);
        left(Due.said(Due.said("b"), "a&nf"), "a&nf behind b", 8, 3, 32);
        left(Due.said(Due.said(Due.said("b"), "c"), "a&nf"), "a&nf behind b, c: b is gone", 8, 5, 32);
    }

    private static void noWorldsLeft() {
        T.sentence("19", "(as bits; all of them, if there are no WORLDS)");
        left(Due.said("a&na"), "a&na", 0, 63, 63);
        left(Due.said(Due.said("a"), "na"), "a, na", 0, 63, 63);
        left(Due.said(Due.said("a&na"), "a"), "a&na, a", 0, 63, 63);
    }

    private static void allWorldsLeft() {
        T.sentence("2 LEFT", "in how many WORLDS (all of them)");
        left(Due.said("a+na"), "a+na", 64, 0, 0);
        left(Due.said(Due.said("a+na"), "nb+b"), "a+na, nb+b", 64, 0, 0);
        left(Due.said("nf"), "nf", 32, 0, 32);
    }

    private static void someReadingOfBoth() {
        T.sentence("2 LEFT", "some READING of the SAYING, and some of THE OTHER one");
        AsWasSaid x = Due.sensed(Due.said(Due.said("a"), "b"), "234501");
        left(x, "a or c, b or d", 36, 0, 0);
        left(Due.said(x, "na&f"), "b or d, a not or c not and f or b", 30, 0, 0);
        left(Due.said(Due.said("a+b"), "na"), "a+b, na", 16, 2, 1);
    }

    private static void inAllInNone() {
        T.sentence("19", "1 FACTS that are so in all, 2 in none");
        left(Due.said("a&b&e&f"), "a&b&e&f", 4, 51, 0);
        left(Due.said("na&nb&ne&nf"), "na&nb&ne&nf", 4, 0, 51);
        AsWasSaid x = Due.said(Due.said("a&nb&c"), "nd&e&nf");
        left(x, "a&nb&c, nd&e&nf: one world", 1, 21, 42);
        left(Due.said("f"), "f", 32, 32, 0);
    }

    private static void leftOutside() {
        T.sentence("19", "OUTSIDE");
        T.refusedBeside(0, 2, States::rich, "left(_)", AsWasSaid::left, Due.OUTSIDE);
    }

    private static void leftWithoutSaying() {
        T.sentence("19", "STATE");
        for (int what = 0; what <= 2; what++) {
            int number = what;
            T.refused(States::fresh, "left(" + what + ")", x -> x.left(number), Due.STATE);
            T.refused(States::silent, "left(" + what + ")", x -> x.left(number), Due.STATE);
        }
    }

    private static void leftOutsideAheadOfState() {
        T.sentence("19", "OUTSIDE ahead of STATE");
        T.refusedBeside(0, 2, States::silent, "left(_) without a saying", AsWasSaid::left, Due.OUTSIDE);
    }

    // ---- promise 20

    private static void asks(String text, String senses, int want) {
        T.due("ask() of " + text + " by " + senses, Due.sensed(Due.said(text), senses).ask(), want);
    }

    private static void ofAsk() {
        fewestAtWorst();
        someReadingIsAsked();
        leastOfLikeFacts();
        otherIsNotAsked();
        askWithoutSaying();
    }

    private static void fewestAtWorst() {
        T.sentence("2 ASK", "whatever the answer, fewest WORLDS .. would be left at worst");
        asks("a", "012345", 1);
        asks("na", "012345", 1);
        asks("a&b", "012345", 2);
        asks("na&nb&nc&nd", "012345", 4);
        asks("a&b&c&d", "012445", 5);
        asks("na&nb&nc&nd", "012445", 5);
        asks("a&b&c&d", "511111", 2);
    }

    private static void someReadingIsAsked() {
        T.sentence("2 ASK", "in which some READING of the SAYING is so");
        asks("a&b", "112345", 0);
        asks("a+na", "012345", 0);
        asks("a+b", "012345", 2);
        asks("a", "112345", 2);
    }

    private static void leastOfLikeFacts() {
        T.sentence("2 ASK", "of like ones the least");
        asks("f", "012345", 0);
        asks("a&na", "012345", 0);
        asks("a+na", "012345", 0);
        asks("a&c&d&e", "012345", 1);
    }

    private static void otherIsNotAsked() {
        T.sentence("2 ASK", "the SAYING (not THE OTHER one)");
        AsWasSaid x = Due.said(Due.said("b"), "a");
        T.due("ask() of a behind b", x.ask(), 1);
        Due.said(x, "f");
        T.due("ask() of f behind a", x.ask(), 0);
    }

    private static void askWithoutSaying() {
        T.sentence("20", "STATE");
        T.refused(States::fresh, "ask()", AsWasSaid::ask, Due.STATE);
        T.refused(States::silent, "ask()", AsWasSaid::ask, Due.STATE);
    }

    // ---- promise 21

    private static void adds(String text, String senses, int world, int which, int readings) {
        AsWasSaid x = Due.in(Due.sensed(Due.said(text), senses), world);
        T.due("add(0) to " + text + " by " + senses + " in " + world, x.add(0), which);
        T.due("add(1) to " + text + " by " + senses + " in " + world, x.add(1), readings);
    }

    private static void ofAdd() {
        numbersOfWords();
        leastOfLikeWords();
        byHowManyReadings();
        addOutside();
        addWithoutSaying();
        addToFourWords();
        addSixtyTimes();
        sixtyTimesEver();
        onlyWhatWasDone();
        addOutsideAheadOfState();
        addWouldBe();
    }

    private static void numbersOfWords() {
        T.sentence("2 ADD", "12 times the joining (0 AND, 1 \"+\"), 6 times NOT (1), and the letter (0 for \"a\")");
        adds("a", "012345", 1, 12, 8);
        adds("f", "012345", 32, 17, 8);
        adds("na", "555555", 0, 18, 8);
        // all but f are so, and the second sense of each is f: "+nf" alone is so by both senses
        adds("a", "555555", 31, 23, 6);
        adds("a", "555550", 31, 12, 4);
    }

    private static void leastOfLikeWords() {
        T.sentence("2 ADD", "of like ones the least");
        adds("a", "012345", 0, 18, 4);
        adds("a", "012345", 63, 12, 8);
        adds("a", "012345", 62, 13, 4);
        adds("a", "012345", 32, 17, 4);
        adds("a&na", "012345", 0, 18, 8);
    }

    private static void byHowManyReadings() {
        T.sentence("21", "1 by how many READINGS");
        adds("a+b+c", "012345", 63, 12, 640);
        adds("na+nb+nc", "012345", 0, 18, 640);
        adds("a&b&c", "012345", 0, 18, 32);
    }

    private static void addOutside() {
        T.sentence("21", "OUTSIDE");
        T.refusedBeside(0, 1, States::rich, "add(_)", AsWasSaid::add, Due.OUTSIDE);
    }

    private static void addWithoutSaying() {
        T.sentence("21", "STATE: no SAYING");
        for (int what = 0; what <= 1; what++) {
            int number = what;
            T.refused(States::fresh, "add(" + what + ")", x -> x.add(number), Due.STATE);
            T.refused(States::silent, "add(" + what + ")", x -> x.add(number), Due.STATE);
        }
    }

    private static void addToFourWords() {
        T.sentence("21", "STATE: .. or it has four WORDS");
        T.refused(() -> Due.said("a&b&c&d"), "add(0) to a&b&c&d", x -> x.add(0), Due.STATE);
        T.refused(() -> Due.said(States.rich(), "a+b+c+d"), "add(1) to a+b+c+d", x -> x.add(1), Due.STATE);
        T.due("add(1) to three", Due.said("a&b&c").add(1), 32);
        AsWasSaid x = Due.said(Due.said("a&b&c&d"), "a");
        T.due("add(1) to one behind four", x.add(1), 4);
    }

    private static AsWasSaid addedTo(AsWasSaid x, int times) {
        for (int time = 0; time < times; time++) {
            x.add(time & 1);
        }
        return x;
    }

    private static void addSixtyTimes() {
        T.sentence("21", "STATE: .. or add() was done 60 times");
        AsWasSaid x = addedTo(Due.said("a"), 59);
        T.due("count(9)", x.count(9), 59);
        T.due("add(1), the 60th", x.add(1), 4);
        T.refused(() -> addedTo(Due.said("a"), 60), "add(0), the 61st", y -> y.add(0), Due.STATE);
        T.refused(() -> addedTo(Due.said("a"), 60), "add(1), the 61st", y -> y.add(1), Due.STATE);
        T.due("count(9)", x.count(9), 60);
    }

    private static void sixtyTimesEver() {
        T.sentence("21", "ever (it counts on, whatever is read or restored)");
        AsWasSaid x = Due.said("a");
        x.image();
        addedTo(x, 30);
        x.restore();
        T.due("count(9) behind restore()", x.count(9), 30);
        Due.sensed(Due.said(x, "b"), "543210");
        T.due("count(9) behind say() and senses()", x.count(9), 30);
        addedTo(x, 30);
        T.due("add(0), the 61st", x.add(0), Due.STATE);
        x.restore();
        T.due("add(0), the 61st, behind restore()", x.add(0), Due.STATE);
        Due.said(x, "c");
        T.due("add(0), the 61st, behind say()", x.add(0), Due.STATE);
        T.due("count(9)", x.count(9), 60);
    }

    private static void onlyWhatWasDone() {
        T.sentence("21", "add() was done (what was refused was not)");
        AsWasSaid x = new AsWasSaid();
        x.add(0);
        Due.said(x, "a&b&c&d");
        x.add(0);
        Due.said(x, "a");
        x.add(2);
        x.add(-1);
        T.due("count(9)", x.count(9), 0);
        addedTo(x, 59);
        T.due("add(1), the 60th that is done", x.add(1), 4);
    }

    private static void addOutsideAheadOfState() {
        T.sentence("21", "OUTSIDE ahead of STATE");
        T.refused(States::silent, "add(2) without a saying", x -> x.add(2), Due.OUTSIDE);
        T.refused(States::full, "add(-1) to four words, the 61st", x -> x.add(-1), Due.OUTSIDE);
        T.refused(() -> Due.said(States.full(), "a"), "add(2), the 61st", x -> x.add(2), Due.OUTSIDE);
    }

    private static void addWouldBe() {
        T.sentence("2 ADD", "by which it would be so (the SAYING stays)");
        AsWasSaid x = Due.said(Due.said("b"), "a");
        x.add(0);
        T.due("count(1)", x.count(1), 1);
        T.due("count(0)", x.count(0), 2);
        T.due("count(2)", x.count(2), 2);
        T.due("reading(1)", x.reading(1), 32);
        T.due("left(0) of b, a", x.left(0), 16);
        T.due("count(8)", x.count(8), 2);
    }
}
