import java.util.List;

/** The edges that promises 26 to 29 name, and those that go for all calls: a test for each sentence. */
public final class EdgesOfAllTest {
    private static final Due T = new Due("EdgesOfAllTest");

    public static void main(String[] args) {
        ofConstants();
        ofWorlds();
        ofImage();
        ofRestore();
        ofWhatAnImageKeeps();
        ofWhatItDoesNot();
        ofCount();
        ofDigest();
        ofRefusals();
        ofManyCalls();
        T.end();
    }

    private static void ofConstants() {
        T.sentence("The public face", "NONE = -1, UNKNOWN = -101, OUTSIDE = -102, STATE = -103, FULL = -104");
        T.due("NONE", AsWasSaid.NONE, -1);
        T.due("UNKNOWN", AsWasSaid.UNKNOWN, -101);
        T.due("OUTSIDE", AsWasSaid.OUTSIDE, -102);
        T.due("STATE", AsWasSaid.STATE, -103);
        T.due("FULL", AsWasSaid.FULL, -104);
    }

    private static void ofWorlds() {
        T.sentence("1", "A WORLD is six FACTS (0 to 5), each so or not: as a number, bits 0 to 5");
        AsWasSaid x = new AsWasSaid();
        for (int world = 0; world < 64; world++) {
            Due.in(x, world);
            T.due("count(5)", x.count(5), world);
            T.due("image()", x.image(), world);
        }
    }

    // ---- promise 26

    private static void ofImage() {
        imageTellsTheWorld();
        imageIsTheLatest();
        imageStaysAsItWasKept();
    }

    private static void imageTellsTheWorld() {
        T.sentence("26", "An IMAGE is kept: THE WORLD");
        AsWasSaid x = new AsWasSaid();
        T.due("image() of a new object", x.image(), 0);
        T.due("image() in 63", Due.in(x, 63).image(), 63);
        long before = x.digest();
        x.image();
        T.due("digest() behind image()", x.digest(), before);
    }

    private static void imageIsTheLatest() {
        T.sentence("26", "(one; the latest)");
        AsWasSaid x = Due.in(new AsWasSaid(), 1);
        x.image();
        Due.in(x, 2).image();
        Due.in(x, 4);
        T.due("restore()", x.restore(), 2);
        T.due("restore() again: the first is gone", x.restore(), 2);
    }

    private static void imageStaysAsItWasKept() {
        T.sentence("26", "is kept (whatever comes behind it)");
        AsWasSaid x = States.rich();
        x.image();
        List<Long> first = answersOf(x);
        changeAll(x);
        x.restore();
        T.due("what the image keeps, behind restore()", answersOf(x).equals(first) ? 1 : 0, 1);
        changeAll(x);
        x.restore();
        T.due("what the image keeps, behind restore() again", answersOf(x).equals(first) ? 1 : 0, 1);
    }

    private static List<Long> answersOf(AsWasSaid x) {
        return List.of((long) x.count(3), (long) x.count(4), (long) x.count(5), (long) x.count(6),
            (long) x.about(0, 5), (long) x.about(1, 5), (long) x.about(2, 5), (long) x.fits(0, 0),
            (long) x.fits(1, 0), (long) x.fits(2, 0), (long) x.fits(1, 1), x.digest());
    }

    private static void changeAll(AsWasSaid x) {
        for (int world = 0; world < 64; world += 7) {
            Due.in(x, world).round();
        }
        x.tell(63);
        x.hearer(1, 0, 0);
    }

    // ---- promise 27

    private static void ofRestore() {
        restoreTellsTheWorld();
        restoreMoreThanOnce();
        noneWasKept();
    }

    private static void restoreTellsTheWorld() {
        T.sentence("27", "It goes on from the IMAGE: THE WORLD");
        AsWasSaid x = new AsWasSaid();
        x.image();
        T.due("restore() of world 0", Due.in(x, 63).restore(), 0);
        T.due("count(5)", x.count(5), 0);
        Due.in(x, 63).image();
        T.due("restore() of world 63", Due.in(x, 0).restore(), 63);
        T.due("count(5)", x.count(5), 63);
    }

    private static void restoreMoreThanOnce() {
        T.sentence("27", "It goes on from the IMAGE (which is kept still)");
        AsWasSaid x = Due.in(new AsWasSaid(), 5);
        x.image();
        for (int time = 0; time < 3; time++) {
            x.set(time, 1 - x.fact(time));
            T.due("restore(), time " + time, x.restore(), 5);
        }
    }

    private static void noneWasKept() {
        T.sentence("27", "STATE: none was kept");
        T.refused(States::fresh, "restore()", AsWasSaid::restore, Due.STATE);
        T.refused(() -> Due.in(Due.said("a"), 9), "restore() in 9", AsWasSaid::restore, Due.STATE);
    }

    // ---- what an image keeps

    private static void ofWhatAnImageKeeps() {
        howManyHearers();
        howOftenTheyChanged();
        howManyRounds();
        whatIsTold();
        nothingOfAll();
    }

    private static void howManyHearers() {
        T.sentence("3 IMAGE", "how many HEARERS there are (those that come since are gone by restore())");
        AsWasSaid x = Due.said("a");
        x.hearer(1, 1, 1);
        x.image();
        x.hearer(2, 2, 0);
        x.hearer(3, 3, 1);
        x.act(2);
        x.restore();
        T.due("count(3)", x.count(3), 1);
        T.due("about(0, 0)", x.about(0, 0), 1);
        T.due("about(1, 0)", x.about(1, 0), Due.UNKNOWN);
        T.due("act(1)", x.act(1), Due.UNKNOWN);
        T.due("as(2, 0)", x.as(2, 0), Due.UNKNOWN);
        T.due("hearer(4, 4, 1), the next", x.hearer(4, 4, 1), 1);
        T.due("hearer(0, 5, 0), the next", x.hearer(0, 5, 0), 2);
        T.due("about(2, 5) of him who is where another was", x.about(2, 5), 0);
        T.due("about(2, 1)", x.about(2, 1), 5);
        x.restore();
        T.due("count(3) behind restore() again", x.count(3), 1);
    }

    private static void howOftenTheyChanged() {
        T.sentence("3 IMAGE", "how often their FACTS became other ones by them");
        AsWasSaid x = Due.said("f");
        x.hearer(0, 0, 1);
        x.hearer(1, 1, 1);
        x.act(0);
        x.image();
        x.act(1);
        x.set(0, 0);
        x.act(0);
        T.due("about(0, 5) ahead of restore()", x.about(0, 5), 2);
        T.due("about(1, 5) ahead of restore()", x.about(1, 5), 1);
        x.restore();
        T.due("about(0, 5)", x.about(0, 5), 1);
        T.due("about(1, 5)", x.about(1, 5), 0);
    }

    private static void howManyRounds() {
        T.sentence("3 IMAGE", "how many ROUNDS there were");
        AsWasSaid x = Due.said("f");
        x.round();
        x.round();
        x.image();
        x.round();
        x.restore();
        T.due("count(4)", x.count(4), 2);
        x.round();
        T.due("count(4) behind one more", x.count(4), 3);
    }

    private static void whatIsTold() {
        T.sentence("3 IMAGE", "what is TOLD");
        AsWasSaid x = Due.said("a");
        x.hearer(0, 5, 1);
        x.tell(0);
        x.then(32);
        x.image();
        x.tell(3);
        x.then(3);
        x.then(0);
        T.due("fits(0, 0) ahead of restore()", x.fits(0, 0), 0);
        x.restore();
        T.due("count(6)", x.count(6), 2);
        T.due("fits(0, 0) of 0, 32", x.fits(0, 0), 2);
        T.due("then(32)", x.then(32), 3);
        T.due("fits(0, 0) of 0, 32, 32", x.fits(0, 0), 2);
        x.image();
        for (int world = 33; world < 36; world++) {
            x.then(world);
        }
        T.due("then(36) behind six", x.then(36), Due.FULL);
        x.restore();
        T.due("then(36) behind restore()", x.then(36), 4);
    }

    private static void nothingOfAll() {
        T.sentence("3 IMAGE", "An IMAGE (of an object that has nothing)");
        AsWasSaid x = new AsWasSaid();
        x.image();
        Due.in(Due.said(x, "a"), 9).hearer(0, 1, 1);
        x.round();
        x.tell(4);
        T.due("restore()", x.restore(), 0);
        for (int what = 3; what <= 6; what++) {
            T.due("count(" + what + ")", x.count(what), 0);
        }
    }

    private static void ofWhatItDoesNot() {
        T.sentence("3 IMAGE", "An IMAGE keeps .. (what it does not name goes on)");
        AsWasSaid x = Due.said(Due.said("c"), "a");
        x.image();
        Due.sensed(Due.said(x, "b+c"), "543210");
        x.add(0);
        Due.written(x, "xyz");
        x.restore();
        T.due("count(0): the SAYING", x.count(0), 8);
        T.due("count(2): THE OTHER one", x.count(2), 2);
        T.due("left(0): b or e or c or d, a or f", x.left(0), 45);
        T.due("sense(0): the SENSES", x.sense(0), 5);
        T.due("count(7): THE PAGE", x.count(7), 3);
        T.due("count(8): how often a SAYING was read", x.count(8), 3);
        T.due("count(9): how often add() was done", x.count(9), 1);
    }

    // ---- promise 28

    private static void ofCount() {
        countOfNone();
        countOfAll();
        countOfMost();
        onlyRoundsCount();
        onlyWhatWasReadCounts();
        countOutside();
    }

    private static void countOfNone() {
        T.sentence("28", "0 READINGS (0: no SAYING), .. 2 READINGS of THE OTHER one (0: none)");
        AsWasSaid x = new AsWasSaid();
        for (int what = 0; what <= 9; what++) {
            T.due("count(" + what + ") of a new object", x.count(what), 0);
        }
        Due.said(x, "a");
        T.due("count(0) behind the first", x.count(0), 2);
        T.due("count(1) behind the first", x.count(1), 1);
        T.due("count(2) behind the first", x.count(2), 0);
    }

    private static void countOfAll() {
        T.sentence("28", "How many");
        AsWasSaid x = Due.said(Due.said("a+b"), "a&nb&c");
        x.hearer(0, 3, 1);
        x.hearer(1, 4, 1);
        x.round();
        x.tell(3);
        x.then(4);
        x.then(4);
        x.add(1);
        x.add(0);
        x.add(0);
        x.add(0);
        Due.written(x, "hello");
        int[] want = {16, 3, 8, 2, 1, 24, 3, 5, 2, 4};
        for (int what = 0; what <= 9; what++) {
            T.due("count(" + what + ")", x.count(what), want[what]);
        }
    }

    private static void countOfMost() {
        T.sentence("28", "How many (of all the most)");
        AsWasSaid x = Due.said(States.full(), "a+b+c+d");
        Due.in(Due.said(x, "na+nb+nc+nd"), 63);
        Due.written(x, "01234567890123");
        int[] want = {640, 4, 640, 4, 1, 63, 6, 14, 5, 60};
        for (int what = 0; what <= 9; what++) {
            T.due("count(" + what + ")", x.count(what), want[what]);
        }
    }

    private static void onlyRoundsCount() {
        T.sentence("28", "4 ROUNDS (not what acts alone, nor what would be, nor what is refused)");
        AsWasSaid x = new AsWasSaid();
        x.round();
        Due.said(x, "a").hearer(0, 1, 1);
        x.act(0);
        x.anyhow();
        x.times(60, 1, 0);
        T.due("count(4)", x.count(4), 0);
        x.round();
        T.due("count(4) behind round()", x.count(4), 1);
    }

    private static void onlyWhatWasReadCounts() {
        T.sentence("28", "8 how often a SAYING was read (not SENSES, nor what is refused)");
        AsWasSaid x = Due.sensed(new AsWasSaid(), "543210");
        Due.written(x, "a&").say();
        T.due("count(8)", x.count(8), 0);
        Due.said(Due.said(x, "a"), "a");
        T.due("count(8) behind the same twice", x.count(8), 2);
    }

    private static void countOutside() {
        T.sentence("28", "OUTSIDE");
        T.refusedBeside(0, 9, States::fresh, "count(_)", AsWasSaid::count, Due.OUTSIDE);
        T.refusedBeside(0, 9, States::rich, "count(_)", AsWasSaid::count, Due.OUTSIDE);
    }

    // ---- promise 29

    private static void digest(String of, AsWasSaid x, String page) {
        T.due("digest() of " + of, x.digest(), DigestOf.answers(x, page));
    }

    private static void ofDigest() {
        digestBegins();
        digestOfHearers();
        digestWithSaying();
        digestWithSayingAndTold();
        digestOfThePage();
        digestWraps();
        digestChangesNothing();
    }

    private static void digestBegins() {
        T.sentence("29", "h is 739, then .. of each letter its second SENSE, then of each FACT what it is");
        T.due("digest() of a new object", new AsWasSaid().digest(),
            DigestOf.numbers(0, 1, 2, 3, 4, 5, 0, 0, 0, 0, 0, 0, 0, 0, 0, 0, 0, 0, 0, 0, 0, 0));
        T.due("digest() of other senses, in 38", Due.in(Due.sensed(new AsWasSaid(), "504132"), 38).digest(),
            DigestOf.numbers(5, 0, 4, 1, 3, 2, 0, 1, 1, 0, 0, 1, 0, 0, 0, 0, 0, 38, 0, 0, 0, 0));
    }

    private static void digestOfHearers() {
        T.sentence("29", "of each HEARER what about() tells for 0 to 5");
        AsWasSaid x = new AsWasSaid();
        x.hearer(4, 5, 1);
        x.hearer(0, 3, 0);
        T.due("digest() of two, without a saying", x.digest(),
            DigestOf.numbers(0, 1, 2, 3, 4, 5, 0, 0, 0, 0, 0, 0, 4, 5, 1, -1, 0, 0, 0, 3, 0, -1, 0, 0,
                0, 0, 0, 2, 0, 0, 0, 0, 0, 0));
        digest("four", States.full(), "na&nb&nc&nd&na");
    }

    private static void digestWithSaying() {
        T.sentence("29", "with a SAYING what come() .., ANYHOW, what left() .., ASK");
        T.due("digest() of a&na", Due.said("a&na").digest(),
            DigestOf.numbers(0, 1, 2, 3, 4, 5, 0, 0, 0, 0, 0, 0, 0, -1, 0, 0, 63, 63, 0, 4, 2, 0, 0, 0, 0, 0, 0, 1, 0));
        digest("one that all readings say", Due.in(Due.said("a+b+c+d"), 63), "");
        digest("two sayings", Due.said(Due.said("a&b"), "f"), "");
        digest("none", Due.in(new AsWasSaid(), 5), "");
    }

    private static void digestWithSayingAndTold() {
        T.sentence("29", "with a SAYING and TOLD of each HEARER what fits() tells for 0 and 1");
        AsWasSaid x = Due.said("a");
        x.tell(1);
        digest("told, nobody hears", x, "");
        x.hearer(0, 5, 1);
        T.due("digest() of one that fits", x.digest(),
            DigestOf.numbers(0, 1, 2, 3, 4, 5, 0, 0, 0, 0, 0, 0, 0, 5, 1, 0, 1, 0, 0, -1, 32, 32, 1, 0, 1, 2, 0,
                2, 1, 0, 1, 0, 0, 1, 0, 1, 0));
        x.then(0);
        digest("one that does not fit", x, "");
        digest("three", States.rich(), "a&0");
        digest("three, told, but no saying", States.silent(), "a&");
    }

    private static void digestOfThePage() {
        T.sentence("29", "letters of THE PAGE");
        T.due("digest() of \" ~\"", Due.written(new AsWasSaid(), " ~").digest(),
            DigestOf.numbers(0, 1, 2, 3, 4, 5, 0, 0, 0, 0, 0, 0, 32, 126, 0, 0, 0, 0, 0, 0, 0, 2, 0, 0));
        digest("a full page", Due.written(new AsWasSaid(), "abcdefghijklmn"), "abcdefghijklmn");
        AsWasSaid x = Due.written(new AsWasSaid(), "abcdefghijklmn");
        digest("a shorter page behind it", Due.written(x, "x"), "x");
        digest("an empty page behind it", Due.written(x, ""), "");
    }

    private static void digestWraps() {
        T.sentence("29", "31 times h, and it (as longs, wrapping)");
        boolean below = false;
        boolean above = false;
        for (int world = 0; world < 64; world++) {
            AsWasSaid x = Due.in(States.rich(), world);
            digest("all, in " + world, x, "a&0");
            below |= x.digest() < 0;
            above |= x.digest() > Integer.MAX_VALUE;
        }
        T.due("digests below 0, and above all ints", below && above ? 1 : 0, 1);
    }

    private static void digestChangesNothing() {
        T.sentence("29", "digest (tells alone)");
        AsWasSaid x = States.rich();
        AsWasSaid twin = States.rich();
        for (int time = 0; time < 3; time++) {
            x.digest();
        }
        T.due("everything behind digest()", Everything.of(x).equals(Everything.of(twin)) ? 1 : 0, 1);
    }

    // ---- refusals

    private static void ofRefusals() {
        refusedOneBehindTheOther();
        refusedWithoutSaying();
    }

    private static void refusedOneBehindTheOther() {
        T.sentence("3 Refusals", "they change nothing (one behind the other)");
        AsWasSaid x = States.full();
        int[] answers = {
            x.letter(31), x.letter(97), x.fault(2), x.say(), x.senses(), x.sense(6), x.reading(640), x.isSo(0, 64),
            x.come(2), x.fact(6), x.set(6, 0), x.set(0, 2), x.hearer(0, 6, 0), x.hearer(5, 0, 0), x.hearer(0, 0, 0),
            x.about(4, 0), x.about(0, 6), x.as(4, 0), x.as(0, 5), x.act(4), x.left(3), x.add(2), x.add(0),
            x.tell(64), x.then(64), x.then(0), x.fits(4, 0), x.fits(0, 2), x.times(61, 0, 0), x.count(10)
        };
        int[] want = {
            Due.OUTSIDE, Due.FULL, Due.OUTSIDE, Due.STATE, Due.STATE, Due.UNKNOWN, Due.UNKNOWN, Due.UNKNOWN,
            Due.OUTSIDE, Due.UNKNOWN, Due.UNKNOWN, Due.OUTSIDE, Due.UNKNOWN, Due.OUTSIDE, Due.FULL,
            Due.UNKNOWN, Due.OUTSIDE, Due.UNKNOWN, Due.OUTSIDE, Due.UNKNOWN, Due.OUTSIDE, Due.OUTSIDE, Due.STATE,
            Due.UNKNOWN, Due.UNKNOWN, Due.FULL, Due.UNKNOWN, Due.OUTSIDE, Due.OUTSIDE, Due.OUTSIDE
        };
        for (int call = 0; call < want.length; call++) {
            T.due("refusal " + call, answers[call], want[call]);
        }
        T.due("everything behind them", Everything.of(x).equals(Everything.of(States.full())) ? 1 : 0, 1);
    }

    private static void refusedWithoutSaying() {
        T.sentence("3 Refusals", "STATE (as told), they change nothing (one behind the other)");
        AsWasSaid x = States.fresh();
        int[] answers = {
            x.say(), x.senses(), x.come(0), x.round(), x.anyhow(), x.left(0), x.ask(), x.add(0), x.then(0),
            x.times(1, 0, 0), x.restore()
        };
        for (int call = 0; call < answers.length; call++) {
            T.due("refusal " + call, answers[call], Due.STATE);
        }
        T.due("everything behind them", Everything.of(x).equals(Everything.of(States.fresh())) ? 1 : 0, 1);
    }

    // ---- how many calls

    private static void ofManyCalls() {
        rounds512();
        sayings512();
        changes512();
    }

    private static void rounds512() {
        T.sentence("What it is", "An object is used for at most 512 calls (rounds)");
        AsWasSaid x = Due.said("a");
        for (int number = 3; number < 512; number++) {
            x.round();
        }
        T.due("count(4), the 512th call", x.count(4), 509);
    }

    private static void sayings512() {
        T.sentence("What it is", "An object is used for at most 512 calls (sayings)");
        AsWasSaid x = new AsWasSaid();
        int calls = 0;
        while (calls < 508) {
            calls += 2;
            x.letter('a' + calls % 6);
            T.due("say(), call " + calls, x.say(), 2);
        }
        T.due("count(8), the 509th call", x.count(8), 254);
        T.due("count(0)", x.count(0), 2);
        T.due("left(0), the 511th call", x.left(0), 16);
        T.due("digest(), the 512th call", x.digest(),
            DigestOf.numbers(0, 1, 2, 3, 4, 5, 0, 0, 0, 0, 0, 0, 0, -1, 32, 16, 20, 0, 0,
                2, 1, 2, 0, 0, 0, 0, 0, 254, 0));
    }

    private static void changes512() {
        T.sentence("What it is", "An object is used for at most 512 calls (what hearers do)");
        AsWasSaid x = Due.said("f");
        x.hearer(0, 0, 1);
        int calls = 4;
        while (calls < 510) {
            calls += 2;
            x.set(0, 0);
            T.due("act(0), call " + calls, x.act(0), 1);
        }
        T.due("about(0, 5), the 511th call", x.about(0, 5), 253);
        T.due("set(0, 0), the 512th call", x.set(0, 0), 1);
    }
}
