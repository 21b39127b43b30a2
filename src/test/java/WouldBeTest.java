/** Promises 18 to 21: anyhow, left, ask, add. */
public final class WouldBeTest {
    private static final Due T = new Due("WouldBeTest");

    public static void main(String[] args) {
        anyhow();
        left();
        leftOfNone();
        leftRefused();
        ask();
        add();
        addRefused();
        addSixtyTimes();
        T.end();
    }

    private static void anyhow() {
        AsWasSaid x = new AsWasSaid();
        T.refused(x, "anyhow(), no saying", x.digest(), x.anyhow(), Due.STATE);
        Due.said(x, "a&b");
        T.due("anyhow() of nobody", x.anyhow(), 16);
        x.hearer(0, 0, 1);
        T.due("anyhow() if not so, a", x.anyhow(), 32);
        x.hearer(0, 1, 1);
        T.due("anyhow() if not so, a, then b", x.anyhow(), 64);
        x.hearer(4, 0, 0);
        T.due("anyhow(), and the abbot undoes it", x.anyhow(), 0);
        T.due("count(5) behind anyhow()", x.count(5), 0);
        T.due("count(4) behind anyhow()", x.count(4), 0);
        T.due("about(0, 5) behind anyhow()", x.about(0, 5), 0);
        Due.said(x, "a+b");
        // readings with "or" are so still wherever b is
        T.due("anyhow() of a+b", x.anyhow(), 64);
    }

    private static void left() {
        AsWasSaid x = Due.said("a+b");
        T.due("a+b: left(0)", x.left(0), 48);
        T.due("a+b: left(1)", x.left(1), 0);
        T.due("a+b: left(2)", x.left(2), 0);
        Due.said(x, "na");
        T.due("a+b, na: left(0)", x.left(0), 16);
        T.due("a+b, na: left(1)", x.left(1), 2);
        T.due("a+b, na: left(2)", x.left(2), 1);
        Due.said(x, "f&c&ne");
        T.due("na, f&c&ne: left(0)", x.left(0), 4);
        T.due("na, f&c&ne: left(1)", x.left(1), 36);
        T.due("na, f&c&ne: left(2)", x.left(2), 17);
        Due.sensed(x, "012344");
        // f as e: e and c and not e is never so; na stays
        T.due("left(0), f as e", x.left(0), 4);
        Due.sensed(x, "112345");
        T.due("left(0): na or nb", x.left(0), 6);
    }

    private static void leftOfNone() {
        AsWasSaid x = Due.said("a&na");
        T.due("a&na: left(0)", x.left(0), 0);
        T.due("a&na: left(1)", x.left(1), 63);
        T.due("a&na: left(2)", x.left(2), 63);
        T.due("a&na: ask()", x.ask(), 0);
        Due.said(x, "b");
        T.due("b behind a&na: left(0)", x.left(0), 0);
        Due.said(x, "nb");
        T.due("nb behind b: left(0)", x.left(0), 0);
        Due.said(x, "a");
        T.due("a behind nb: left(0)", x.left(0), 16);
    }

    private static void leftRefused() {
        AsWasSaid x = new AsWasSaid();
        T.refused(x, "left(0), no saying", x.digest(), x.left(0), Due.STATE);
        T.refused(x, "left(3), no saying", x.digest(), x.left(3), Due.OUTSIDE);
        Due.said(x, "a");
        T.refused(x, "left(-1)", x.digest(), x.left(-1), Due.OUTSIDE);
        T.refused(x, "left(3)", x.digest(), x.left(3), Due.OUTSIDE);
    }

    private static void ask() {
        AsWasSaid x = new AsWasSaid();
        T.refused(x, "ask(), no saying", x.digest(), x.ask(), Due.STATE);
        Due.said(x, "a&b");
        T.due("a&b: ask()", x.ask(), 2);
        Due.said(x, "na");
        T.due("na: ask(), the other asks nothing", x.ask(), 1);
        Due.said(x, "f");
        T.due("f: ask()", x.ask(), 0);
        T.due("ask() again", x.ask(), 0);
        Due.said(x, "a+b&c+d");
        T.due("a+b&c+d: ask(), of no word", x.ask(), 4);
        Due.said(x, "a+b+e");
        T.due("a+b+e: ask()", x.ask(), 2);
        Due.said(x, "na&b");
        T.due("na&b: ask()", x.ask(), 2);
    }

    private static void add(String text, int world, int which, int readings) {
        AsWasSaid x = Due.in(Due.said(text), world);
        T.due(text + " in " + world + ": add(0)", x.add(0), which);
        T.due(text + " in " + world + ": add(1)", x.add(1), readings);
        T.due(text + " in " + world + ": count(9)", x.count(9), 2);
        T.due(text + " in " + world + ": count(5)", x.count(5), world);
    }

    private static void add() {
        // "a" is so by both readings: with "+" and a word that is so, all 8
        add("a", 1, 12, 8);
        // "+b" in 2: "or" alone, all of 4; "+na" as many, but later; "+a" none
        add("a", 2, 13, 4);
        // "+na" is the first so one in 0
        add("a", 0, 18, 4);
        // "a&c" in 4: +c gives "or" with c: of both brackets: (a and c) or c so 8; a and (c or c) not
        add("a&c", 4, 14, 8);
        add("a+nb", 3, 12, 48);
        AsWasSaid x = Due.in(Due.sensed(Due.said("f"), "512345"), 32);
        T.due("f in 32, a as f: add(0)", x.add(0), 17);
        T.due("f in 32, a as f: add(1)", x.add(1), 8);
        T.due("the saying stays", x.count(1), 1);
        T.due("its readings stay", x.count(0), 2);
    }

    private static void addRefused() {
        AsWasSaid x = new AsWasSaid();
        T.refused(x, "add(0), no saying", x.digest(), x.add(0), Due.STATE);
        T.refused(x, "add(2), no saying", x.digest(), x.add(2), Due.OUTSIDE);
        Due.said(x, "a&b&c&d");
        T.refused(x, "add(0), four words", x.digest(), x.add(0), Due.STATE);
        T.refused(x, "add(-1), four words", x.digest(), x.add(-1), Due.OUTSIDE);
        Due.said(x, "a&b&c");
        T.refused(x, "add(-1)", x.digest(), x.add(-1), Due.OUTSIDE);
        T.refused(x, "add(2)", x.digest(), x.add(2), Due.OUTSIDE);
        T.due("count(9), refused ones do not count", x.count(9), 0);
        // "+na" in 0: of the five brackets two join it last of all
        T.due("add(1) of three words", x.add(1), 32);
        T.due("count(9)", x.count(9), 1);
    }

    private static void addSixtyTimes() {
        AsWasSaid x = Due.said("a");
        x.image();
        for (int time = 1; time <= 59; time++) {
            T.due("add(" + (time & 1) + "), the " + time + "th", x.add(time & 1), (time & 1) == 0 ? 18 : 4);
        }
        x.restore();
        Due.said(x, "b");
        T.due("count(9)", x.count(9), 59);
        T.due("add(0), the 60th", x.add(0), 18);
        T.refused(x, "add(0), the 61st", x.digest(), x.add(0), Due.STATE);
        T.refused(x, "add(2), the 61st", x.digest(), x.add(2), Due.OUTSIDE);
        T.due("count(9)", x.count(9), 60);
    }
}
