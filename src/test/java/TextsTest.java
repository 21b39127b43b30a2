/** Promises 1 to 7: a new object, letter, blank, fault, say, senses, sense. */
public final class TextsTest {
    private static final Due T = new Due("TextsTest");

    public static void main(String[] args) {
        aNewObject();
        letters();
        blanks();
        faultsOfSayings();
        faultsOfSenses();
        sayings();
        sayingsRefused();
        senses();
        sensesRefused();
        senseOfLetter();
        T.end();
    }

    private static void aNewObject() {
        AsWasSaid x = new AsWasSaid();
        for (int what = 0; what <= 9; what++) {
            T.due("new: count(" + what + ")", x.count(what), 0);
        }
        for (int i = 0; i < 6; i++) {
            T.due("new: fact(" + i + ")", x.fact(i), 0);
            T.due("new: sense(" + i + ")", x.sense(i), i);
        }
        T.due("new: about(0, 0)", x.about(0, 0), Due.UNKNOWN);
        T.due("new: come(0)", x.come(0), Due.STATE);
        T.due("new: restore()", x.restore(), Due.STATE);
        T.due("new: then(0)", x.then(0), Due.STATE);
        T.due("NONE", AsWasSaid.NONE, -1);
        T.due("UNKNOWN", AsWasSaid.UNKNOWN, -101);
        T.due("OUTSIDE", AsWasSaid.OUTSIDE, -102);
        T.due("STATE", AsWasSaid.STATE, -103);
        T.due("FULL", AsWasSaid.FULL, -104);
    }

    private static void letters() {
        AsWasSaid x = new AsWasSaid();
        T.refused(x, "letter(31)", x.digest(), x.letter(31), Due.OUTSIDE);
        T.refused(x, "letter(127)", x.digest(), x.letter(127), Due.OUTSIDE);
        T.refused(x, "letter(-1)", x.digest(), x.letter(-1), Due.OUTSIDE);
        T.due("letter(32)", x.letter(32), 1);
        T.due("letter(126)", x.letter(126), 2);
        for (int i = 3; i <= 14; i++) {
            T.due("letter(97), the " + i + "th", x.letter(97), i);
        }
        long before = x.digest();
        T.refused(x, "letter(97) on a full page", before, x.letter(97), Due.FULL);
        T.refused(x, "letter(31) on a full page", before, x.letter(31), Due.OUTSIDE);
        T.refused(x, "letter(127) on a full page", before, x.letter(127), Due.OUTSIDE);
        T.due("count(7)", x.count(7), 14);
    }

    private static void blanks() {
        AsWasSaid x = new AsWasSaid();
        T.due("blank() of none", x.blank(), 0);
        Due.written(x, "abc");
        T.due("blank()", x.blank(), 3);
        T.due("blank() again", x.blank(), 0);
        T.due("letter(97) behind blank()", x.letter(97), 1);
        T.due("fault(0) behind blank()", x.fault(0), 1);
        for (int i = 1; i < 14; i++) {
            x.letter(97);
        }
        T.due("blank() of a full page", x.blank(), 14);
        T.due("letter(98) behind it", x.letter(98), 1);
    }

    private static void fault(int sort, String text, int want) {
        AsWasSaid x = Due.written(new AsWasSaid(), text);
        long before = x.digest();
        T.due("fault(" + sort + ") of \"" + text + "\"", x.fault(sort), want);
        T.due("digest() behind fault()", x.digest(), before);
    }

    private static void faultsOfSayings() {
        String[] whole = {"", "a", "f", "n", "na", "a&", "a+", "a&n", "a&nb", "na+nb&nc+nd", "f+e+d+c", "a&a&a&a"};
        for (String text : whole) {
            fault(0, text, text.length());
        }
        fault(0, "g", 0);
        fault(0, "`", 0);
        fault(0, "A", 0);
        fault(0, "&", 0);
        fault(0, "+a", 0);
        fault(0, "0", 0);
        fault(0, " a", 0);
        fault(0, "nn", 1);
        fault(0, "n&", 1);
        fault(0, "ng", 1);
        fault(0, "ab", 1);
        fault(0, "an", 1);
        fault(0, "a-b", 1);
        fault(0, "a&&", 2);
        fault(0, "a+&", 2);
        fault(0, "a&nn", 3);
        fault(0, "a&b&c&d&", 7);
        fault(0, "a&b&c&d+", 7);
        fault(0, "a&b&c&de", 7);
        fault(0, "na&nb&nc&nd&na", 11);
        fault(0, "a&bxcy", 3);
        AsWasSaid x = new AsWasSaid();
        T.refused(x, "fault(-1)", x.digest(), x.fault(-1), Due.OUTSIDE);
        T.refused(x, "fault(2)", x.digest(), x.fault(2), Due.OUTSIDE);
    }

    private static void faultsOfSenses() {
        String[] whole = {"", "0", "5", "01234", "012345", "000000", "555555"};
        for (String text : whole) {
            fault(1, text, text.length());
        }
        fault(1, "6", 0);
        fault(1, "/", 0);
        fault(1, "a", 0);
        fault(1, "05a", 2);
        fault(1, "012346", 5);
        fault(1, "0123450", 6);
        fault(1, "01234501234501", 6);
    }

    private static void say(String text, int readings) {
        AsWasSaid x = Due.written(new AsWasSaid(), text);
        T.due("say() of \"" + text + "\"", x.say(), readings);
        T.due("count(0) of it", x.count(0), readings);
        T.due("count(7) of it", x.count(7), 0);
    }

    private static void sayings() {
        say("a", 2);
        say("nf", 2);
        say("a&b", 4);
        say("a+b", 8);
        say("a&b&c", 16);
        say("na&b+c", 32);
        say("a+nb&c", 32);
        say("a+b+c", 64);
        say("a&b&c&d", 80);
        say("a&b&c+d", 160);
        say("a+b&c+d", 320);
        say("na+nb+nc+nd", 640);
        say("a&a", 4);
        AsWasSaid x = Due.said("a+b");
        T.due("count(2) behind the first", x.count(2), 0);
        Due.said(x, "c");
        T.due("count(2) behind the second", x.count(2), 8);
        Due.said(x, "a&b&c");
        T.due("count(0) behind the third", x.count(0), 16);
        T.due("count(1) behind the third", x.count(1), 3);
        T.due("count(2) behind the third", x.count(2), 2);
        T.due("count(8) behind the third", x.count(8), 3);
        T.due("come(0) of a&b&c in 0", x.come(0), 0);
        Due.said(x, "nd");
        T.due("come(0) of nd in 0", x.come(0), 2);
    }

    private static void sayRefused(String text) {
        AsWasSaid x = Due.said(Due.said("a+b"), "c&nd");
        Due.written(x, text);
        T.refused(x, "say() of \"" + text + "\"", x.digest(), x.say(), Due.STATE);
        T.due("count(7) of it", x.count(7), text.length());
        T.due("count(2) of it", x.count(2), 8);
    }

    private static void sayingsRefused() {
        String[] none = {"", "n", "a&", "a+", "a&n", "nn", "ab", "g", "a&b&c&d&", "a&b&c&d&e", "012345", "aa", " a", "a "};
        for (String text : none) {
            sayRefused(text);
        }
        AsWasSaid x = new AsWasSaid();
        T.refused(x, "say() of nothing", x.digest(), x.say(), Due.STATE);
    }

    private static void senses() {
        AsWasSaid x = Due.written(new AsWasSaid(), "012345");
        T.due("senses() all like", x.senses(), 0);
        T.due("count(7) behind senses()", x.count(7), 0);
        Due.written(x, "112345");
        T.due("senses() one unlike", x.senses(), 1);
        Due.written(x, "543210");
        T.due("senses() all unlike", x.senses(), 6);
        for (int letter = 0; letter < 6; letter++) {
            T.due("sense(" + letter + ")", x.sense(letter), 5 - letter);
        }
        Due.written(x, "000000");
        T.due("senses() five unlike", x.senses(), 5);
        sensesOfWhatWasRead();
    }

    private static void sensesOfWhatWasRead() {
        AsWasSaid x = Due.said(Due.said("a"), "nb");
        Due.sensed(x, "222222");
        T.due("isSo(0, 2) of nb", x.isSo(0, 2), 0);
        T.due("isSo(1, 2) of nb, second c", x.isSo(1, 2), 1);
        T.due("isSo(1, 4) of nb, second c", x.isSo(1, 4), 0);
        T.due("left(0): (nb or nc) and (a or c)", x.left(0), 32);
        Due.sensed(x, "012345");
        T.due("left(0): nb and a", x.left(0), 16);
        T.due("isSo(1, 4) of nb again", x.isSo(1, 4), 1);
    }

    private static void sensesRefused() {
        String[] none = {"", "0", "01234", "0123450", "012346", "01234a", "a&b", "a"};
        for (String text : none) {
            AsWasSaid x = Due.sensed(Due.said("a+b"), "543210");
            Due.written(x, text);
            T.refused(x, "senses() of \"" + text + "\"", x.digest(), x.senses(), Due.STATE);
            T.due("count(7) of it", x.count(7), text.length());
        }
    }

    private static void senseOfLetter() {
        AsWasSaid x = Due.sensed(new AsWasSaid(), "304152");
        int[] want = {3, 0, 4, 1, 5, 2};
        for (int letter = 0; letter < 6; letter++) {
            T.due("sense(" + letter + ") of 304152", x.sense(letter), want[letter]);
        }
        T.refused(x, "sense(-1)", x.digest(), x.sense(-1), Due.UNKNOWN);
        T.refused(x, "sense(6)", x.digest(), x.sense(6), Due.UNKNOWN);
    }
}
