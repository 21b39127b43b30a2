/** Promises 11 to 17: fact, set, hearer, about, as, act, round. */
public final class HearersTest {
    private static final Due T = new Due("HearersTest");

    public static void main(String[] args) {
        facts();
        join();
        joinRefused();
        aboutThem();
        taken();
        takenOfLike();
        wouldAct();
        asKinds();
        act();
        actRefused();
        round();
        T.end();
    }

    private static void facts() {
        AsWasSaid x = new AsWasSaid();
        T.due("set(3, 1)", x.set(3, 1), 0);
        T.due("set(3, 1) again", x.set(3, 1), 1);
        T.due("fact(3)", x.fact(3), 1);
        T.due("fact(2)", x.fact(2), 0);
        T.due("count(5)", x.count(5), 8);
        x.set(5, 1);
        x.set(0, 1);
        T.due("count(5) of 0, 3, 5", x.count(5), 41);
        T.due("set(3, 0)", x.set(3, 0), 1);
        T.due("count(5) of 0, 5", x.count(5), 33);
        T.due("fact(5)", x.fact(5), 1);
        T.refused(x, "fact(-1)", x.digest(), x.fact(-1), Due.UNKNOWN);
        T.refused(x, "fact(6)", x.digest(), x.fact(6), Due.UNKNOWN);
        T.refused(x, "set(-1, 0)", x.digest(), x.set(-1, 0), Due.UNKNOWN);
        T.refused(x, "set(6, 1)", x.digest(), x.set(6, 1), Due.UNKNOWN);
        T.refused(x, "set(6, 2)", x.digest(), x.set(6, 2), Due.UNKNOWN);
        T.refused(x, "set(0, 2)", x.digest(), x.set(0, 2), Due.OUTSIDE);
        T.refused(x, "set(0, -1)", x.digest(), x.set(0, -1), Due.OUTSIDE);
    }

    private static void join() {
        AsWasSaid x = new AsWasSaid();
        T.due("hearer(0, 0, 0)", x.hearer(0, 0, 0), 0);
        T.due("hearer(4, 5, 1)", x.hearer(4, 5, 1), 1);
        T.due("hearer(2, 3, 1)", x.hearer(2, 3, 1), 2);
        T.due("count(3)", x.count(3), 3);
        T.due("hearer(3, 2, 0)", x.hearer(3, 2, 0), 3);
        T.refused(x, "hearer(1, 1, 1), the fifth", x.digest(), x.hearer(1, 1, 1), Due.FULL);
        T.refused(x, "hearer(5, 1, 1), the fifth", x.digest(), x.hearer(5, 1, 1), Due.OUTSIDE);
        T.refused(x, "hearer(0, 6, 1), the fifth", x.digest(), x.hearer(0, 6, 1), Due.UNKNOWN);
        T.due("count(3)", x.count(3), 4);
    }

    private static void joinRefused() {
        AsWasSaid x = new AsWasSaid();
        T.refused(x, "hearer(0, -1, 0)", x.digest(), x.hearer(0, -1, 0), Due.UNKNOWN);
        T.refused(x, "hearer(0, 6, 0)", x.digest(), x.hearer(0, 6, 0), Due.UNKNOWN);
        T.refused(x, "hearer(9, 6, 9)", x.digest(), x.hearer(9, 6, 9), Due.UNKNOWN);
        T.refused(x, "hearer(-1, 0, 0)", x.digest(), x.hearer(-1, 0, 0), Due.OUTSIDE);
        T.refused(x, "hearer(5, 0, 0)", x.digest(), x.hearer(5, 0, 0), Due.OUTSIDE);
        T.refused(x, "hearer(0, 0, -1)", x.digest(), x.hearer(0, 0, -1), Due.OUTSIDE);
        T.refused(x, "hearer(0, 0, 2)", x.digest(), x.hearer(0, 0, 2), Due.OUTSIDE);
        T.due("count(3)", x.count(3), 0);
    }

    private static void aboutThem() {
        AsWasSaid x = new AsWasSaid();
        x.hearer(4, 5, 1);
        x.hearer(0, 2, 0);
        T.due("about(0, 0)", x.about(0, 0), 4);
        T.due("about(0, 1)", x.about(0, 1), 5);
        T.due("about(0, 2)", x.about(0, 2), 1);
        T.due("about(0, 3), no saying", x.about(0, 3), Due.NONE);
        T.due("about(0, 4), no saying", x.about(0, 4), 0);
        T.due("about(1, 4), no saying", x.about(1, 4), 0);
        T.due("about(0, 5)", x.about(0, 5), 0);
        T.due("about(1, 0)", x.about(1, 0), 0);
        T.due("about(1, 1)", x.about(1, 1), 2);
        T.due("about(1, 2)", x.about(1, 2), 0);
        T.refused(x, "about(-1, 0)", x.digest(), x.about(-1, 0), Due.UNKNOWN);
        T.refused(x, "about(2, 0)", x.digest(), x.about(2, 0), Due.UNKNOWN);
        T.refused(x, "about(2, 6)", x.digest(), x.about(2, 6), Due.UNKNOWN);
        T.refused(x, "about(0, -1)", x.digest(), x.about(0, -1), Due.OUTSIDE);
        T.refused(x, "about(1, 6)", x.digest(), x.about(1, 6), Due.OUTSIDE);
    }

    private static AsWasSaid hearerOfKind(int kind, String text) {
        AsWasSaid x = Due.said(text);
        x.hearer(kind, 0, 1);
        return x;
    }

    private static void takes(int kind, String text, int want) {
        AsWasSaid x = hearerOfKind(kind, text);
        T.due("kind " + kind + " takes of " + text, x.about(0, 3), want);
    }

    private static void taken() {
        takes(0, "a+b&c", 0);
        takes(1, "a+b&c", 31);
        takes(2, "a+b&c", 24);
        takes(3, "a+b&c", 0);
        takes(4, "a+b&c", 0);
        takes(1, "a", 1);
        takes(1, "a+b+c+d", 639);
        AsWasSaid x = Due.sensed(Due.said("na&b"), "101111");
        for (int kind = 0; kind < 4; kind++) {
            x.hearer(kind, kind, 1);
        }
        // na&b, with a as b and b as a: not a and b 16, not b and b 0, not a and a 0, not b and a 16
        T.due("a hearer takes", x.about(0, 3), 0);
        T.due("a fool takes", x.about(1, 3), 3);
        T.due("a king takes", x.about(2, 3), 0);
        T.due("a priest takes", x.about(3, 3), 1);
    }

    private static void takenOfLike() {
        AsWasSaid x = Due.said("a+b");
        x.hearer(2, 0, 1);
        x.hearer(3, 0, 1);
        x.hearer(4, 0, 1);
        T.due("the king's least of like ones", x.about(0, 3), 4);
        T.due("the priest's least of like ones", x.about(1, 3), 0);
        Due.sensed(x, "112345");
        T.due("the king's: a or b, 48", x.about(0, 3), 4);
        Due.sensed(x, "002345");
        T.due("the priest's: a and b, 16", x.about(1, 3), 0);
        Due.said(x, "a&na");
        T.due("the king's of a&na, all 0 but b's", x.about(0, 3), 0);
        Due.sensed(x, "112345");
        T.due("the king's: b and not a", x.about(0, 3), 1);
        T.due("the abbot's: a and not a", x.about(2, 3), 0);
    }

    private static void wouldAct() {
        AsWasSaid x = Due.said("a");
        for (int kind : new int[] {0, 1, 3, 4}) {
            x.hearer(kind, 0, 1);
        }
        for (int hearer = 0; hearer < 4; hearer++) {
            T.due("a in 0: about(" + hearer + ", 4)", x.about(hearer, 4), hearer == 3 ? 0 : 1);
        }
        x.set(0, 1);
        for (int hearer = 0; hearer < 4; hearer++) {
            T.due("a in 1: about(" + hearer + ", 4)", x.about(hearer, 4), hearer == 3 ? 1 : 0);
        }
        Due.said(x, "na");
        T.due("na in 1: about(0, 4), his fact is his value already", x.about(0, 4), 1);
    }

    private static void asKinds() {
        AsWasSaid x = new AsWasSaid();
        int[] kinds = {1, 2, 3, 4};
        for (int kind : kinds) {
            x.hearer(kind, 0, 1);
        }
        for (int hearer = 0; hearer < 4; hearer++) {
            for (int kind = 0; kind <= 4; kind++) {
                boolean is = kind == 0 || kind == kinds[hearer] || (kind == 3 && kinds[hearer] == 4);
                T.due("as(" + hearer + ", " + kind + ")", x.as(hearer, kind), is ? hearer : Due.NONE);
            }
        }
        T.refused(x, "as(-1, 0)", x.digest(), x.as(-1, 0), Due.UNKNOWN);
        T.refused(x, "as(4, 0)", x.digest(), x.as(4, 0), Due.UNKNOWN);
        T.refused(x, "as(4, 5)", x.digest(), x.as(4, 5), Due.UNKNOWN);
        T.refused(x, "as(0, -1)", x.digest(), x.as(0, -1), Due.OUTSIDE);
        T.refused(x, "as(0, 5)", x.digest(), x.as(0, 5), Due.OUTSIDE);
        AsWasSaid y = new AsWasSaid();
        y.hearer(0, 0, 0);
        T.due("a hearer as a fool", y.as(0, 1), Due.NONE);
        T.due("a hearer as a priest", y.as(0, 3), Due.NONE);
        T.due("a hearer as a hearer", y.as(0, 0), 0);
    }

    private static void act() {
        AsWasSaid x = Due.said("a&b");
        x.hearer(0, 3, 1);
        x.hearer(4, 3, 0);
        T.due("act(1), the abbot does not", x.act(1), 0);
        T.due("act(0)", x.act(0), 8);
        T.due("about(0, 5)", x.about(0, 5), 1);
        T.due("act(0) again", x.act(0), 8);
        T.due("about(0, 5), not again", x.about(0, 5), 1);
        Due.in(x, 11);
        T.due("act(0), it is so", x.act(0), 11);
        T.due("act(1), it is so", x.act(1), 3);
        T.due("about(1, 5)", x.about(1, 5), 1);
        T.due("act(1) again", x.act(1), 3);
        T.due("about(1, 5) again", x.about(1, 5), 1);
        T.due("set does not count", x.set(3, 1), 0);
        T.due("about(0, 5)", x.about(0, 5), 1);
        T.due("count(4), no round", x.count(4), 0);
        x.set(0, 0);
        x.set(3, 0);
        T.due("act(0) once more", x.act(0), 10);
        T.due("about(0, 5), twice", x.about(0, 5), 2);
    }

    private static void actRefused() {
        AsWasSaid x = new AsWasSaid();
        T.refused(x, "act(0), nobody", x.digest(), x.act(0), Due.UNKNOWN);
        x.hearer(0, 0, 1);
        T.refused(x, "act(0), no saying", x.digest(), x.act(0), Due.STATE);
        T.refused(x, "act(1), no saying", x.digest(), x.act(1), Due.UNKNOWN);
        Due.said(x, "a");
        T.refused(x, "act(-1)", x.digest(), x.act(-1), Due.UNKNOWN);
        T.refused(x, "act(1)", x.digest(), x.act(1), Due.UNKNOWN);
    }

    private static void round() {
        AsWasSaid x = new AsWasSaid();
        T.refused(x, "round(), no saying", x.digest(), x.round(), Due.STATE);
        Due.said(x, "a");
        T.due("round() of nobody", x.round(), 0);
        T.due("count(4)", x.count(4), 1);
        x.hearer(4, 1, 1);
        x.hearer(0, 0, 1);
        x.hearer(4, 2, 1);
        T.due("round(): by number", x.round(), 5);
        T.due("about(0, 5)", x.about(0, 5), 0);
        T.due("about(1, 5)", x.about(1, 5), 1);
        T.due("about(2, 5)", x.about(2, 5), 1);
        T.due("round() again", x.round(), 7);
        T.due("about(0, 5)", x.about(0, 5), 1);
        T.due("about(2, 5)", x.about(2, 5), 1);
        T.due("count(4)", x.count(4), 3);
        T.due("count(5)", x.count(5), 7);
    }
}
