import java.util.function.Supplier;

/** The edges that promises 1 to 7 name, and those of the texts that the terms tell: a test for each sentence. */
public final class EdgesOfTextsTest {
    private static final Due T = new Due("EdgesOfTextsTest");

    public static void main(String[] args) {
        ofANewObject();
        ofLetters();
        ofBlank();
        ofFault();
        ofSayingsAsTexts();
        ofSensesAsTexts();
        ofSay();
        ofSenses();
        ofSense();
        T.end();
    }

    private static Supplier<AsWasSaid> page(String text) {
        return () -> Due.written(States.rich(), text);
    }

    // ---- promise 1

    private static void ofANewObject() {
        noSaying();
        worldNone();
        nobodyHears();
        nothingElse();
    }

    private static void noSaying() {
        T.sentence("1", "No SAYING");
        AsWasSaid x = new AsWasSaid();
        T.due("count(0)", x.count(0), 0);
        T.due("count(1)", x.count(1), 0);
        T.due("count(2)", x.count(2), 0);
        T.due("count(8)", x.count(8), 0);
        T.due("reading(0)", x.reading(0), Due.UNKNOWN);
        T.due("come(0)", x.come(0), Due.STATE);
    }

    private static void worldNone() {
        T.sentence("1", "WORLD 0");
        AsWasSaid x = new AsWasSaid();
        for (int fact = 0; fact < 6; fact++) {
            T.due("fact(" + fact + ")", x.fact(fact), 0);
        }
        T.due("count(5)", x.count(5), 0);
        T.due("image()", x.image(), 0);
    }

    private static void nobodyHears() {
        T.sentence("1", "nobody hears");
        AsWasSaid x = new AsWasSaid();
        T.due("count(3)", x.count(3), 0);
        T.due("about(0, 0)", x.about(0, 0), Due.UNKNOWN);
        T.due("hearer(0, 0, 0)", x.hearer(0, 0, 0), 0);
    }

    private static void nothingElse() {
        T.sentence("1", "A new object (whatever others hold)");
        States.rich();
        States.full();
        AsWasSaid x = new AsWasSaid();
        T.due("digest()", x.digest(), DigestOf.numbers(0, 1, 2, 3, 4, 5, 0, 0, 0, 0, 0, 0, 0, 0, 0, 0, 0, 0, 0, 0, 0, 0));
        T.due("blank()", x.blank(), 0);
        T.due("restore()", x.restore(), Due.STATE);
        T.due("then(0)", x.then(0), Due.STATE);
        T.due("tell(0)", x.tell(0), 0);
        T.due("count(4)", x.count(4), 0);
        T.due("count(9)", x.count(9), 0);
    }

    // ---- promise 2

    private static void ofLetters() {
        howManyThePageHas();
        codes();
        aFullPage();
        codeAheadOfFull();
    }

    private static void howManyThePageHas() {
        T.sentence("2", "how many THE PAGE has");
        AsWasSaid x = new AsWasSaid();
        for (int number = 1; number <= 14; number++) {
            T.due("letter(120), letter " + number, x.letter(120), number);
            T.due("count(7)", x.count(7), number);
        }
    }

    private static void codes() {
        T.sentence("2", "OUTSIDE: code (32 to 126)");
        AsWasSaid x = new AsWasSaid();
        T.due("letter(32)", x.letter(32), 1);
        T.due("letter(126)", x.letter(126), 2);
        T.due("letter(33)", x.letter(33), 3);
        T.due("letter(125)", x.letter(125), 4);
        T.refusedBeside(32, 126, States::fresh, "letter(_) on an empty page", AsWasSaid::letter, Due.OUTSIDE);
        T.refusedBeside(32, 126, States::rich, "letter(_)", AsWasSaid::letter, Due.OUTSIDE);
        T.refused(States::rich, "letter(256 + 97)", y -> y.letter(256 + 97), Due.OUTSIDE);
        T.refused(States::rich, "letter(65536 + 97)", y -> y.letter(65536 + 97), Due.OUTSIDE);
    }

    private static void aFullPage() {
        T.sentence("2", "FULL: above 14");
        T.due("letter(97), the 14th", Due.written(new AsWasSaid(), "0123456789012").letter(97), 14);
        T.refused(page("01234567890123"), "letter(97), the 15th", x -> x.letter(97), Due.FULL);
        T.refused(page("01234567890123"), "letter(32), the 15th", x -> x.letter(32), Due.FULL);
        AsWasSaid x = States.full();
        T.due("letter(97), the 15th", x.letter(97), Due.FULL);
        x.blank();
        T.due("letter(97) behind blank()", x.letter(97), 1);
    }

    private static void codeAheadOfFull() {
        T.sentence("2", "OUTSIDE ahead of FULL");
        T.refused(States::full, "letter(31) on a full page", x -> x.letter(31), Due.OUTSIDE);
        T.refused(States::full, "letter(127) on a full page", x -> x.letter(127), Due.OUTSIDE);
    }

    // ---- promise 3

    private static void ofBlank() {
        howManyItHad();
        empty();
    }

    private static void howManyItHad() {
        T.sentence("3", "how many letters it had");
        AsWasSaid x = new AsWasSaid();
        T.due("blank() of an empty page", x.blank(), 0);
        x.letter(97);
        T.due("blank() of one letter", x.blank(), 1);
        T.due("blank() again", x.blank(), 0);
        T.due("blank() of a full page", States.full().blank(), 14);
    }

    private static void empty() {
        T.sentence("3", "THE PAGE is empty");
        for (String text : new String[] {"", "a", "01234567890123"}) {
            AsWasSaid x = Due.said("a");
            for (int place = 0; place < text.length(); place++) {
                x.letter(text.charAt(place));
            }
            x.blank();
            T.due("count(7) of " + text, x.count(7), 0);
            T.due("fault(0) of " + text, x.fault(0), 0);
            T.due("say() of " + text, x.say(), Due.STATE);
            T.due("count(1): the saying stays", x.count(1), 1);
        }
    }

    // ---- promise 4

    private static void fault(int sort, String text, int want) {
        AsWasSaid x = Due.written(new AsWasSaid(), text);
        T.due("fault(" + sort + ") of \"" + text + "\"", x.fault(sort), want);
        T.due("count(7) behind it", x.count(7), text.length());
    }

    private static void ofFault() {
        firstFault();
        behindThoseAhead();
        noFault();
        sorts();
    }

    private static void firstFault() {
        T.sentence("4", "The place (from 0) of the first letter that no SAYING, SENSES has there");
        fault(0, "x", 0);
        fault(0, "+", 0);
        fault(0, "ax", 1);
        fault(0, "a&xyz", 2);
        fault(0, "na&nb&nc&ndx", 11);
        fault(0, "zzzzzzzzzzzzzz", 0);
        fault(1, "x", 0);
        fault(1, "0x", 1);
        fault(1, "01x3x5", 2);
        fault(1, "01234x", 5);
        fault(1, "xxxxxxxxxxxxxx", 0);
    }

    private static void behindThoseAhead() {
        T.sentence("4", "behind those ahead of it");
        fault(0, "n", 1);
        fault(0, "nn", 1);
        fault(0, "an", 1);
        fault(0, "a&n", 3);
        fault(0, "a&b&c+d", 7);
        fault(0, "a&b&c+d&", 7);
        fault(1, "555555", 6);
        fault(1, "5555555", 6);
    }

    private static void noFault() {
        T.sentence("4", "how many letters it has, if there is none");
        fault(0, "", 0);
        fault(1, "", 0);
        fault(0, "a", 1);
        fault(0, "a&", 2);
        fault(0, "na&nb&nc&nd", 11);
        fault(0, "na&nb&nc&n", 10);
        fault(1, "5", 1);
        fault(1, "01234", 5);
        fault(1, "012345", 6);
    }

    private static void sorts() {
        T.sentence("4", "(sort 0), (1). OUTSIDE");
        fault(0, "0", 0);
        fault(1, "0", 1);
        T.refusedBeside(0, 1, States::fresh, "fault(_) of an empty page", AsWasSaid::fault, Due.OUTSIDE);
        T.refusedBeside(0, 1, States::rich, "fault(_)", AsWasSaid::fault, Due.OUTSIDE);
    }

    // ---- a saying is a text

    private static void isSaying(String text, int readings) {
        T.due("fault(0) of \"" + text + "\"", Due.written(new AsWasSaid(), text).fault(0), text.length());
        T.due("say() of \"" + text + "\"", Due.written(new AsWasSaid(), text).say(), readings);
    }

    private static void isNone(String text, int fault) {
        T.due("fault(0) of \"" + text + "\"", Due.written(new AsWasSaid(), text).fault(0), fault);
        T.due("say() of \"" + text + "\"", Due.written(new AsWasSaid(), text).say(), Due.STATE);
    }

    private static void ofSayingsAsTexts() {
        oneToFourWords();
        perhapsNot();
        lettersOfWords();
        joinings();
        firstSenses();
    }

    private static void oneToFourWords() {
        T.sentence("Terms", "one to four WORDS");
        isNone("", 0);
        isSaying("a", 2);
        isSaying("a&b", 4);
        isSaying("a&b&c", 16);
        isSaying("a&b&c&d", 80);
        isNone("a&b&c&d&", 7);
        isNone("a&b&c&d+", 7);
        isNone("a&b&c&d&e", 7);
        isNone("na+nb+nc+nd+e", 11);
    }

    private static void perhapsNot() {
        T.sentence("Terms", "each perhaps \"n\" (NOT)");
        isSaying("na", 2);
        isSaying("na&nb&nc&nd", 80);
        isSaying("a&b&c&nd", 80);
        isNone("n", 1);
        isNone("nna", 1);
        isNone("a&nnb", 3);
        isNone("a&n", 3);
        isNone("an", 1);
        isNone("n&a", 1);
        AsWasSaid x = Due.said("na&b");
        T.due("na&b in 2", x.isSo(0, 2), 1);
        T.due("na&b in 0: NOT is of a alone", x.isSo(0, 0), 0);
        Due.said(x, "a&nb");
        T.due("a&nb in 1", x.isSo(0, 1), 1);
        T.due("a&nb in 0: NOT is of b alone", x.isSo(0, 0), 0);
    }

    private static void lettersOfWords() {
        T.sentence("Terms", "then a letter \"a\" to \"f\"");
        for (char letter = 'a'; letter <= 'f'; letter++) {
            isSaying(String.valueOf(letter), 2);
            isSaying("n" + letter, 2);
            isSaying("f+" + letter, 8);
        }
        for (String other : new String[] {"`", "g", "A", "F", "@", "m", "o", "0", " ", "~"}) {
            isNone(other, 0);
            isNone("n" + other, 1);
            isNone("f+" + other, 2);
        }
    }

    private static void joinings() {
        T.sentence("Terms", "between them a joining each: \"&\", \"+\"");
        isSaying("a&b", 4);
        isSaying("a+b", 8);
        isNone("ab", 1);
        isNone("aa", 1);
        isNone("a&&b", 2);
        isNone("a++b", 2);
        isNone("a&+b", 2);
        isNone("&a", 0);
        isNone("+a", 0);
        isNone("a&", 2);
        isNone("a+", 2);
        for (String other : new String[] {"%", "'", "*", ",", "|", " ", "n"}) {
            isNone("a" + other + "b", 1);
        }
    }

    private static void firstSenses() {
        T.sentence("Terms", "The first SENSE of \"a\" is FACT 0, and so on");
        for (int fact = 0; fact < 6; fact++) {
            AsWasSaid x = Due.sensed(Due.said(String.valueOf((char) ('a' + fact))), "543210");
            T.due("isSo(0, that alone), fact " + fact, x.isSo(0, 1 << fact), 1);
            T.due("isSo(0, all but that), fact " + fact, x.isSo(0, 63 - (1 << fact)), 0);
            T.due("reading(0), fact " + fact, x.reading(0), 32);
        }
    }

    // ---- senses are a text

    private static void isSenses(String text, int unlike) {
        T.due("fault(1) of \"" + text + "\"", Due.written(new AsWasSaid(), text).fault(1), text.length());
        T.due("senses() of \"" + text + "\"", Due.written(new AsWasSaid(), text).senses(), unlike);
    }

    private static void isNoSenses(String text, int fault) {
        T.due("fault(1) of \"" + text + "\"", Due.written(new AsWasSaid(), text).fault(1), fault);
        T.due("senses() of \"" + text + "\"", Due.written(new AsWasSaid(), text).senses(), Due.STATE);
    }

    private static void ofSensesAsTexts() {
        sixDigits();
        digits();
        forLetters();
        readAheadOfThem();
        atFirstTheSame();
    }

    private static void sixDigits() {
        T.sentence("Terms", "a text of six digits");
        isNoSenses("", 0);
        isNoSenses("0", 1);
        isNoSenses("01234", 5);
        isSenses("012345", 0);
        isNoSenses("0123450", 6);
        isNoSenses("01234501234501", 6);
    }

    private static void digits() {
        T.sentence("Terms", "(0 to 5: ..)");
        isSenses("000000", 5);
        isSenses("555555", 5);
        for (String other : new String[] {"/", "6", "9", ":", "a", " "}) {
            isNoSenses(other + "12345", 0);
            isNoSenses("01234" + other, 5);
        }
    }

    private static void forLetters() {
        T.sentence("Terms", "for \"a\" to \"f\"");
        AsWasSaid x = Due.sensed(new AsWasSaid(), "512340");
        T.due("sense(0)", x.sense(0), 5);
        T.due("sense(5)", x.sense(5), 0);
        Due.said(x, "a");
        T.due("a in 32, the second sense", x.isSo(1, 32), 1);
        T.due("a in 1, the second sense", x.isSo(1, 1), 0);
        Due.said(x, "nf");
        T.due("nf in 1, the second sense", x.isSo(1, 1), 0);
        T.due("nf in 32, the second sense", x.isSo(1, 32), 1);
    }

    private static void readAheadOfThem() {
        T.sentence("Terms", "of a SAYING that was read ahead of them, too");
        AsWasSaid x = Due.said(Due.said("b"), "a");
        x.hearer(3, 5, 1);
        T.due("left(0) of b, a", x.left(0), 16);
        Due.sensed(x, "023345");
        T.due("left(0) of b or c, a", x.left(0), 24);
        Due.sensed(x, "312345");
        T.due("isSo(1, 8) of a, or d", x.isSo(1, 8), 1);
        T.due("left(0) of b, a or d", x.left(0), 24);
        Due.said(x, "a&nb");
        T.due("the priest takes of a&nb", x.about(0, 3), 0);
        Due.sensed(x, "102345");
        T.due("the priest takes of a&nb, b as a", x.about(0, 3), 1);
    }

    private static void atFirstTheSame() {
        T.sentence("Terms", "at first it is the same");
        AsWasSaid x = new AsWasSaid();
        for (int letter = 0; letter < 6; letter++) {
            T.due("sense(" + letter + ")", x.sense(letter), letter);
            Due.said(x, String.valueOf((char) ('a' + letter)));
            for (int world = 0; world < 64; world++) {
                T.due("isSo(1, " + world + ") of letter " + letter, x.isSo(1, world), x.isSo(0, world));
            }
            x = new AsWasSaid();
        }
    }

    // ---- promise 5

    private static void ofSay() {
        becomesTheOther();
        howManyReadings();
        emptyBehindSay();
        sayRefused();
    }

    private static void becomesTheOther() {
        T.sentence("5", "(that so far becomes THE OTHER one)");
        AsWasSaid x = Due.said("a");
        T.due("count(2) behind the first", x.count(2), 0);
        T.due("left(0) behind the first", x.left(0), 32);
        Due.said(x, "b+c");
        T.due("count(2) behind the second", x.count(2), 2);
        T.due("left(0) of a, b+c", x.left(0), 24);
        Due.said(x, "nb");
        T.due("count(2) behind the third", x.count(2), 8);
        T.due("left(0) of b+c, nb", x.left(0), 16);
        Due.said(x, "nb");
        T.due("count(2) behind the same again", x.count(2), 2);
        T.due("left(0) of nb, nb", x.left(0), 32);
    }

    private static void howManyReadings() {
        T.sentence("5", "how many READINGS");
        isSaying("f", 2);
        isSaying("a+a+a+a", 640);
        AsWasSaid x = Due.said("a+b+c+d");
        T.due("say() of a short one behind a long one", Due.written(x, "e").say(), 2);
        T.due("count(0) then", x.count(0), 2);
    }

    private static void emptyBehindSay() {
        T.sentence("5", "THE PAGE is empty then");
        AsWasSaid x = Due.said("na&nb&nc&nd");
        T.due("count(7)", x.count(7), 0);
        T.due("say() again", x.say(), Due.STATE);
        T.due("letter(97)", x.letter(97), 1);
    }

    private static void sayRefused() {
        T.sentence("5", "STATE: it is none");
        String[] none = {"", "n", "a+", "a&n", "nn", "ab", "g", "a&b&c&d&", "na&nb&nc&nd&na", "012345", "a ", " a"};
        for (String text : none) {
            T.refused(page(text), "say() of \"" + text + "\"", AsWasSaid::say, Due.STATE);
            T.refused(() -> Due.written(new AsWasSaid(), text), "say() of \"" + text + "\", the first one",
                AsWasSaid::say, Due.STATE);
        }
        T.refused(States::full, "say() of a full page", AsWasSaid::say, Due.STATE);
    }

    // ---- promise 6

    private static void ofSenses() {
        howManyAreUnlike();
        emptyBehindSenses();
        sensesRefused();
    }

    private static void howManyAreUnlike() {
        T.sentence("6", "how many letters have two unlike ones");
        isSenses("012345", 0);
        isSenses("112345", 1);
        isSenses("012344", 1);
        isSenses("123450", 6);
        AsWasSaid x = Due.sensed(new AsWasSaid(), "123450");
        T.due("senses() of 123450 again", Due.written(x, "123450").senses(), 6);
        T.due("senses() of 012345 behind it", Due.written(x, "012345").senses(), 0);
    }

    private static void emptyBehindSenses() {
        T.sentence("6", "THE PAGE is empty then");
        AsWasSaid x = Due.sensed(new AsWasSaid(), "555555");
        T.due("count(7)", x.count(7), 0);
        T.due("senses() again", x.senses(), Due.STATE);
        T.due("sense(0)", x.sense(0), 5);
        T.due("letter(48)", x.letter(48), 1);
    }

    private static void sensesRefused() {
        T.sentence("6", "STATE: it is none");
        for (String text : new String[] {"", "0", "01234", "0123450", "612345", "01234a", "a", "a+b+c", "/12345"}) {
            T.refused(page(text), "senses() of \"" + text + "\"", AsWasSaid::senses, Due.STATE);
            T.refused(() -> Due.written(new AsWasSaid(), text), "senses() of \"" + text + "\", the first ones",
                AsWasSaid::senses, Due.STATE);
        }
        T.refused(States::full, "senses() of a full page", AsWasSaid::senses, Due.STATE);
    }

    // ---- promise 7

    private static void ofSense() {
        letterOfSense();
        senseRefused();
    }

    private static void letterOfSense() {
        T.sentence("7", "The second SENSE of a letter (0 for \"a\")");
        AsWasSaid x = Due.sensed(new AsWasSaid(), "450123");
        int[] want = {4, 5, 0, 1, 2, 3};
        for (int letter = 0; letter < 6; letter++) {
            T.due("sense(" + letter + ")", x.sense(letter), want[letter]);
        }
    }

    private static void senseRefused() {
        T.sentence("7", "UNKNOWN");
        T.refusedBeside(0, 5, States::fresh, "sense(_) at first", AsWasSaid::sense, Due.UNKNOWN);
        T.refusedBeside(0, 5, States::rich, "sense(_)", AsWasSaid::sense, Due.UNKNOWN);
        T.refused(States::rich, "sense(97)", x -> x.sense(97), Due.UNKNOWN);
    }
}
