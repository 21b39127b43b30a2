import java.util.function.Supplier;

/** The edges that promises 11 to 17 name, and those of hearers that the terms tell: a test for each sentence. */
public final class EdgesOfHearersTest {
    private static final Due T = new Due("EdgesOfHearersTest");

    public static void main(String[] args) {
        ofFact();
        ofSet();
        ofHearer();
        ofAbout();
        ofTakes();
        ofActs();
        ofAs();
        ofAct();
        ofRound();
        T.end();
    }

    /** One hearer of each kind from 0 to 3, all of them of the same fact and value. */
    private static AsWasSaid heard(AsWasSaid x, int fact, int value, int... kinds) {
        for (int kind : kinds) {
            x.hearer(kind, fact, value);
        }
        return x;
    }

    private static Supplier<AsWasSaid> unspoken() {
        return () -> heard(new AsWasSaid(), 0, 1, 0, 4);
    }

    // ---- promise 11

    private static void ofFact() {
        factOfTheWorld();
        factUnknown();
    }

    private static void factOfTheWorld() {
        T.sentence("11", "A FACT of THE WORLD (1, 0)");
        AsWasSaid x = new AsWasSaid();
        for (int world : new int[] {0, 1, 32, 33, 30, 63}) {
            Due.in(x, world);
            for (int fact = 0; fact < 6; fact++) {
                T.due("fact(" + fact + ") in " + world, x.fact(fact), (world >> fact) & 1);
            }
        }
    }

    private static void factUnknown() {
        T.sentence("11", "UNKNOWN");
        T.refusedBeside(0, 5, States::fresh, "fact(_)", AsWasSaid::fact, Due.UNKNOWN);
        T.refusedBeside(0, 5, States::rich, "fact(_)", AsWasSaid::fact, Due.UNKNOWN);
        T.refused(() -> Due.in(States.rich(), 63), "fact(32) in 63", x -> x.fact(32), Due.UNKNOWN);
    }

    // ---- promise 12

    private static void ofSet() {
        whatItWas();
        thatFactAlone();
        setUnknown();
        setOutside();
        factAheadOfValue();
    }

    private static void whatItWas() {
        T.sentence("12", "A FACT becomes v: what it was");
        AsWasSaid x = new AsWasSaid();
        for (int fact = 0; fact < 6; fact += 5) {
            T.due("set(" + fact + ", 0), it is already", x.set(fact, 0), 0);
            T.due("set(" + fact + ", 1)", x.set(fact, 1), 0);
            T.due("set(" + fact + ", 1), it is already", x.set(fact, 1), 1);
            T.due("fact(" + fact + ")", x.fact(fact), 1);
            T.due("set(" + fact + ", 0)", x.set(fact, 0), 1);
            T.due("fact(" + fact + ")", x.fact(fact), 0);
        }
    }

    private static void thatFactAlone() {
        T.sentence("12", "A FACT becomes v (no other one)");
        for (int fact = 0; fact < 6; fact++) {
            AsWasSaid x = new AsWasSaid();
            x.set(fact, 1);
            T.due("count(5) of fact " + fact + " alone", x.count(5), 1 << fact);
            Due.in(x, 63);
            x.set(fact, 0);
            T.due("count(5) of all but fact " + fact, x.count(5), 63 - (1 << fact));
        }
    }

    private static void setUnknown() {
        T.sentence("12", "UNKNOWN");
        T.refusedBeside(0, 5, States::rich, "set(_, 0)", (x, fact) -> x.set(fact, 0), Due.UNKNOWN);
        T.refusedBeside(0, 5, States::rich, "set(_, 1)", (x, fact) -> x.set(fact, 1), Due.UNKNOWN);
    }

    private static void setOutside() {
        T.sentence("12", "OUTSIDE: v (0, 1)");
        T.refusedBeside(0, 1, States::rich, "set(0, _)", (x, v) -> x.set(0, v), Due.OUTSIDE);
        T.refusedBeside(0, 1, States::rich, "set(5, _)", (x, v) -> x.set(5, v), Due.OUTSIDE);
        T.refused(States::rich, "set(0, 3)", x -> x.set(0, 3), Due.OUTSIDE);
    }

    private static void factAheadOfValue() {
        T.sentence("12", "UNKNOWN ahead of OUTSIDE");
        T.refused(States::rich, "set(6, 2)", x -> x.set(6, 2), Due.UNKNOWN);
        T.refused(States::rich, "set(-1, -1)", x -> x.set(-1, -1), Due.UNKNOWN);
    }

    // ---- promise 13

    private static void ofHearer() {
        hisNumber();
        hearerUnknown();
        hearerOutside();
        fourAtMost();
        refusalsOfHearer();
    }

    private static void hisNumber() {
        T.sentence("13", "A HEARER: his number");
        AsWasSaid x = new AsWasSaid();
        int[][] them = {{0, 0, 0}, {4, 5, 1}, {4, 5, 1}, {1, 0, 1}};
        for (int number = 0; number < 4; number++) {
            T.due("hearer " + number, x.hearer(them[number][0], them[number][1], them[number][2]), number);
            T.due("count(3)", x.count(3), number + 1);
        }
        for (int number = 0; number < 4; number++) {
            for (int what = 0; what < 3; what++) {
                T.due("about(" + number + ", " + what + ")", x.about(number, what), them[number][what]);
            }
        }
    }

    private static void hearerUnknown() {
        T.sentence("13", "UNKNOWN: fact");
        T.refusedBeside(0, 5, States::fresh, "hearer(0, _, 0)", (x, fact) -> x.hearer(0, fact, 0), Due.UNKNOWN);
        T.refusedBeside(0, 5, States::rich, "hearer(4, _, 1)", (x, fact) -> x.hearer(4, fact, 1), Due.UNKNOWN);
    }

    private static void hearerOutside() {
        T.sentence("13", "OUTSIDE: kind, value");
        T.refusedBeside(0, 4, States::rich, "hearer(_, 0, 0)", (x, kind) -> x.hearer(kind, 0, 0), Due.OUTSIDE);
        T.refusedBeside(0, 4, States::rich, "hearer(_, 5, 1)", (x, kind) -> x.hearer(kind, 5, 1), Due.OUTSIDE);
        T.refusedBeside(0, 1, States::rich, "hearer(0, 0, _)", (x, value) -> x.hearer(0, 0, value), Due.OUTSIDE);
        T.refusedBeside(0, 1, States::rich, "hearer(4, 5, _)", (x, value) -> x.hearer(4, 5, value), Due.OUTSIDE);
        T.refused(States::rich, "hearer(5, 0, 2)", x -> x.hearer(5, 0, 2), Due.OUTSIDE);
    }

    private static void fourAtMost() {
        T.sentence("13", "FULL (HEARERS: 4 at most)");
        AsWasSaid x = States.rich();
        T.due("hearer(1, 1, 1), the fourth", x.hearer(1, 1, 1), 3);
        T.refused(States::full, "hearer(1, 1, 1), the fifth", y -> y.hearer(1, 1, 1), Due.FULL);
        T.refused(States::full, "hearer(0, 0, 0), the fifth", y -> y.hearer(0, 0, 0), Due.FULL);
        x.restore();
        T.due("hearer(1, 1, 1) where the fourth was, behind restore()", x.hearer(1, 1, 1), 3);
        T.due("hearer(1, 1, 1), the fifth", x.hearer(1, 1, 1), Due.FULL);
    }

    private static void refusalsOfHearer() {
        T.sentence("13", "UNKNOWN ahead of OUTSIDE ahead of FULL");
        T.refused(States::rich, "hearer(5, 6, 2)", x -> x.hearer(5, 6, 2), Due.UNKNOWN);
        T.refused(States::full, "hearer(0, 6, 0), the fifth", x -> x.hearer(0, 6, 0), Due.UNKNOWN);
        T.refused(States::full, "hearer(5, 0, 0), the fifth", x -> x.hearer(5, 0, 0), Due.OUTSIDE);
        T.refused(States::full, "hearer(0, 0, 2), the fifth", x -> x.hearer(0, 0, 2), Due.OUTSIDE);
    }

    // ---- promise 14

    private static void ofAbout() {
        noneWithoutSaying();
        wouldActWithoutSaying();
        wouldActNow();
        alreadyHisValue();
        howOftenByHim();
        aboutUnknown();
        aboutOutside();
        hearerAheadOfWhat();
    }

    private static void noneWithoutSaying() {
        T.sentence("14", "3 the READING that he TAKES (NONE: no SAYING)");
        AsWasSaid x = heard(new AsWasSaid(), 0, 1, 0, 1, 2, 4);
        for (int hearer = 0; hearer < 4; hearer++) {
            T.due("about(" + hearer + ", 3)", x.about(hearer, 3), Due.NONE);
        }
        Due.said(x, "a");
        T.due("about(1, 3) behind say()", x.about(1, 3), 1);
    }

    private static void wouldActWithoutSaying() {
        T.sentence("14", "4 whether he would ACT now (no SAYING: nobody takes a reading)");
        AsWasSaid x = heard(new AsWasSaid(), 0, 1, 0, 1, 2, 4);
        for (int hearer = 0; hearer < 4; hearer++) {
            T.due("about(" + hearer + ", 4)", x.about(hearer, 4), 0);
        }
    }

    private static void wouldActNow() {
        T.sentence("14", "4 whether he would ACT now (1, 0)");
        AsWasSaid x = heard(Due.said("f"), 0, 1, 0, 4);
        T.due("not so: about(0, 4)", x.about(0, 4), 1);
        T.due("not so: about(1, 4), an abbot", x.about(1, 4), 0);
        x.set(5, 1);
        T.due("so: about(0, 4)", x.about(0, 4), 0);
        T.due("so: about(1, 4), an abbot", x.about(1, 4), 1);
        T.due("count(5) behind it", x.count(5), 32);
    }

    private static void alreadyHisValue() {
        T.sentence("14", "also if his FACT is his VALUE already");
        AsWasSaid x = heard(Due.said("f"), 0, 0, 0, 4);
        T.due("about(0, 4)", x.about(0, 4), 1);
        Due.in(x, 32);
        T.due("about(1, 4), an abbot", x.about(1, 4), 1);
        AsWasSaid y = heard(Due.in(Due.said("f"), 1), 0, 1, 0);
        T.due("about(0, 4), value 1", y.about(0, 4), 1);
    }

    private static void howOftenByHim() {
        T.sentence("14", "5 how often his FACT became another one by him");
        AsWasSaid x = heard(Due.said("f"), 0, 1, 0, 0);
        T.due("about(0, 5) at first", x.about(0, 5), 0);
        x.act(0);
        x.act(0);
        x.act(1);
        T.due("about(0, 5): once, then it was his value", x.about(0, 5), 1);
        T.due("about(1, 5): it was his value", x.about(1, 5), 0);
        x.set(0, 0);
        x.set(0, 1);
        T.due("about(0, 5) behind set()", x.about(0, 5), 1);
        x.set(0, 0);
        x.act(1);
        T.due("about(0, 5): by the other one", x.about(0, 5), 1);
        T.due("about(1, 5): by him", x.about(1, 5), 1);
        x.set(0, 0);
        x.round();
        T.due("about(0, 5) behind a round", x.about(0, 5), 2);
        T.due("about(1, 5) behind a round", x.about(1, 5), 1);
        x.set(0, 0);
        x.anyhow();
        x.times(60, 1, 0);
        x.fits(0, 0);
        T.due("about(0, 5) behind what would be", x.about(0, 5), 2);
    }

    private static void aboutUnknown() {
        T.sentence("14", "UNKNOWN");
        for (int what = 0; what <= 5; what++) {
            int number = what;
            T.refused(States::fresh, "about(0, " + what + "), nobody hears", x -> x.about(0, number), Due.UNKNOWN);
            T.refusedBeside(0, 2, States::rich, "about(_, " + what + ")", (x, h) -> x.about(h, number), Due.UNKNOWN);
            T.refusedBeside(0, 3, States::full, "about(_, " + what + ")", (x, h) -> x.about(h, number), Due.UNKNOWN);
        }
    }

    private static void aboutOutside() {
        T.sentence("14", "OUTSIDE");
        T.refusedBeside(0, 5, States::rich, "about(0, _)", (x, what) -> x.about(0, what), Due.OUTSIDE);
        T.refusedBeside(0, 5, States::silent, "about(2, _)", (x, what) -> x.about(2, what), Due.OUTSIDE);
    }

    private static void hearerAheadOfWhat() {
        T.sentence("14", "UNKNOWN ahead of OUTSIDE");
        T.refused(States::fresh, "about(0, 6)", x -> x.about(0, 6), Due.UNKNOWN);
        T.refused(States::rich, "about(3, -1)", x -> x.about(3, -1), Due.UNKNOWN);
    }

    // ---- which reading a hearer takes

    private static void takes(int kind, String text, String senses, int want) {
        AsWasSaid x = heard(Due.sensed(Due.said(text), senses), 0, 1, kind);
        T.due("about(0, 3), kind " + kind + ", of " + text + " by " + senses, x.about(0, 3), want);
    }

    private static void ofTakes() {
        takesTheFirst();
        takesTheLast();
        takesTheMost();
        takesTheFewest();
        takesTheLeast();
    }

    private static void takesTheFirst() {
        T.sentence("Terms", "a HEARER READING 0");
        takes(0, "a", "012345", 0);
        takes(0, "na+nb+nc+nd", "543210", 0);
        takes(0, "a&na", "112345", 0);
    }

    private static void takesTheLast() {
        T.sentence("Terms", "a FOOL the last one");
        takes(1, "a", "012345", 1);
        takes(1, "a&b", "012345", 3);
        takes(1, "na+nb+nc+nd", "012345", 639);
        AsWasSaid x = heard(Due.said("a+b+c+d"), 0, 1, 1);
        Due.said(x, "a");
        T.due("about(0, 3) of a short one behind a long one", x.about(0, 3), 1);
    }

    private static void takesTheMost() {
        T.sentence("Terms", "a KING that which is so in most WORLDS");
        takes(2, "a+b", "012345", 4);
        takes(2, "a+na", "012345", 4);
        takes(2, "a+a", "112345", 5);
        takes(2, "a&na", "112345", 1);
        takes(2, "a&b", "002345", 2);
        takes(2, "a&b", "222345", 3);
        takes(2, "a+b&c+d", "012345", 112);
    }

    private static void takesTheFewest() {
        T.sentence("Terms", "a PRIEST, an ABBOT in fewest");
        for (int kind = 3; kind <= 4; kind++) {
            takes(kind, "a+b", "012345", 0);
            takes(kind, "a+na", "012345", 0);
            takes(kind, "a&a", "112345", 1);
            takes(kind, "a&na", "112345", 0);
            takes(kind, "a&nb", "002345", 2);
            takes(kind, "a&b&nc", "011345", 4);
            takes(kind, "na&b", "222345", 3);
        }
    }

    private static void takesTheLeast() {
        T.sentence("Terms", "of like ones the least");
        takes(2, "a", "012345", 0);
        takes(2, "a", "512345", 0);
        takes(2, "a+b+c+d", "012345", 112);
        takes(2, "a&b&a&b", "101345", 5);
        for (int kind = 3; kind <= 4; kind++) {
            takes(kind, "a", "012345", 0);
            takes(kind, "a", "512345", 0);
            takes(kind, "a+b+c+d", "444445", 0);
            takes(kind, "a&na&nb", "001345", 0);
        }
    }

    // ---- what he does then

    private static void ofActs() {
        ifItIsNotSo();
        anAbbotIfItIs();
        becomesHisValue();
    }

    private static void ifItIsNotSo() {
        T.sentence("Terms", "if the READING that he TAKES is not so");
        for (int kind = 0; kind <= 3; kind++) {
            AsWasSaid x = heard(Due.said("f"), 0, 1, kind);
            T.due("act(0), not so, kind " + kind, x.act(0), 1);
            Due.in(x, 32);
            T.due("act(0), so, kind " + kind, x.act(0), 32);
        }
        // a+b in 2: by AND it is not so (who takes 0), by OR it is
        AsWasSaid y = heard(Due.in(Due.said("a+b"), 2), 5, 1, 0, 1, 2, 3);
        int[] acts = {1, 0, 0, 1};
        for (int hearer = 0; hearer < 4; hearer++) {
            T.due("about(" + hearer + ", 4) of a+b in 2", y.about(hearer, 4), acts[hearer]);
        }
    }

    private static void anAbbotIfItIs() {
        T.sentence("Terms", "(an ABBOT: if it is)");
        AsWasSaid x = heard(Due.said("f"), 0, 1, 4);
        T.due("act(0), not so", x.act(0), 0);
        Due.in(x, 32);
        T.due("act(0), so", x.act(0), 33);
        AsWasSaid y = heard(Due.in(Due.said("a+b"), 2), 5, 1, 4);
        T.due("act(0) of a+b in 2: he takes AND", y.act(0), 2);
    }

    private static void becomesHisValue() {
        T.sentence("Terms", "his FACT becomes his VALUE");
        for (int fact = 0; fact < 6; fact++) {
            AsWasSaid x = heard(Due.said("a&na"), fact, 1, 0);
            x.hearer(0, fact, 0);
            T.due("act(0) of fact " + fact, x.act(0), 1 << fact);
            T.due("act(0) of fact " + fact + " again", x.act(0), 1 << fact);
            Due.in(x, 63);
            T.due("act(1) of fact " + fact, x.act(1), 63 - (1 << fact));
            T.due("act(1) of fact " + fact + " again", x.act(1), 63 - (1 << fact));
        }
    }

    // ---- promise 15

    private static void ofAs() {
        hisOwnNumber();
        theCastFails();
        allAreHearers();
        anAbbotIsAPriest();
        asUnknown();
        asOutside();
        hearerAheadOfKind();
    }

    private static void hisOwnNumber() {
        T.sentence("15", "his own number (not that of the KIND)");
        AsWasSaid x = heard(new AsWasSaid(), 0, 1, 3, 2, 1, 0);
        for (int hearer = 0; hearer < 4; hearer++) {
            T.due("as(" + hearer + ", " + (3 - hearer) + ")", x.as(hearer, 3 - hearer), hearer);
        }
    }

    private static void theCastFails() {
        T.sentence("15", "NONE: he is none such (the cast fails)");
        AsWasSaid x = heard(new AsWasSaid(), 0, 1, 0, 1, 2, 3);
        for (int hearer = 0; hearer < 4; hearer++) {
            for (int kind = 1; kind <= 4; kind++) {
                if (kind != hearer) {
                    T.due("as(" + hearer + ", " + kind + ")", x.as(hearer, kind), Due.NONE);
                }
            }
        }
        T.due("a priest as an abbot", x.as(3, 4), Due.NONE);
    }

    private static void allAreHearers() {
        T.sentence("Terms", "All are HEARERS");
        for (int kind = 0; kind <= 4; kind++) {
            AsWasSaid x = heard(new AsWasSaid(), 0, 1, 1, kind);
            T.due("as(1, 0) of kind " + kind, x.as(1, 0), 1);
        }
    }

    private static void anAbbotIsAPriest() {
        T.sentence("Terms", "an ABBOT is a PRIEST, too");
        AsWasSaid x = heard(new AsWasSaid(), 0, 1, 3, 4);
        T.due("an abbot as a priest", x.as(1, 3), 1);
        T.due("an abbot as an abbot", x.as(1, 4), 1);
        T.due("an abbot as a king", x.as(1, 2), Due.NONE);
        T.due("an abbot as a fool", x.as(1, 1), Due.NONE);
    }

    private static void asUnknown() {
        T.sentence("15", "UNKNOWN");
        T.refused(States::fresh, "as(0, 0), nobody hears", x -> x.as(0, 0), Due.UNKNOWN);
        T.refusedBeside(0, 2, States::rich, "as(_, 0)", (x, hearer) -> x.as(hearer, 0), Due.UNKNOWN);
        T.refusedBeside(0, 3, States::full, "as(_, 4)", (x, hearer) -> x.as(hearer, 4), Due.UNKNOWN);
    }

    private static void asOutside() {
        T.sentence("15", "OUTSIDE");
        T.refusedBeside(0, 4, States::rich, "as(0, _)", (x, kind) -> x.as(0, kind), Due.OUTSIDE);
        T.refusedBeside(0, 4, States::rich, "as(1, _)", (x, kind) -> x.as(1, kind), Due.OUTSIDE);
    }

    private static void hearerAheadOfKind() {
        T.sentence("15", "UNKNOWN ahead of OUTSIDE");
        T.refused(States::fresh, "as(0, 5)", x -> x.as(0, 5), Due.UNKNOWN);
        T.refused(States::rich, "as(3, -1)", x -> x.as(3, -1), Due.UNKNOWN);
    }

    // ---- promise 16

    private static void ofAct() {
        theWorldThen();
        actUnknown();
        actWithoutSaying();
        hearerAheadOfSaying();
    }

    private static void theWorldThen() {
        T.sentence("16", "One ACTS: THE WORLD then");
        AsWasSaid x = Due.in(Due.said("a"), 62);
        x.hearer(0, 5, 0);
        x.hearer(0, 0, 1);
        T.due("act(1): he alone", x.act(1), 63);
        T.due("act(0): it is so now", x.act(0), 63);
        T.due("count(5)", x.count(5), 63);
        T.due("count(4): no round", x.count(4), 0);
    }

    private static void actUnknown() {
        T.sentence("16", "UNKNOWN");
        T.refused(() -> Due.said("a"), "act(0), nobody hears", x -> x.act(0), Due.UNKNOWN);
        T.refusedBeside(0, 2, States::rich, "act(_)", AsWasSaid::act, Due.UNKNOWN);
        T.refusedBeside(0, 3, States::full, "act(_)", AsWasSaid::act, Due.UNKNOWN);
    }

    private static void actWithoutSaying() {
        T.sentence("16", "STATE: no SAYING");
        T.refused(unspoken(), "act(0)", x -> x.act(0), Due.STATE);
        T.refused(unspoken(), "act(1), an abbot", x -> x.act(1), Due.STATE);
        T.refused(States::silent, "act(2)", x -> x.act(2), Due.STATE);
    }

    private static void hearerAheadOfSaying() {
        T.sentence("16", "UNKNOWN ahead of STATE");
        T.refused(States::fresh, "act(0)", x -> x.act(0), Due.UNKNOWN);
        T.refused(unspoken(), "act(2)", x -> x.act(2), Due.UNKNOWN);
        T.refused(unspoken(), "act(-1)", x -> x.act(-1), Due.UNKNOWN);
    }

    // ---- promise 17

    private static void ofRound() {
        roundOfNobody();
        byNumber();
        roundWithoutSaying();
    }

    private static void roundOfNobody() {
        T.sentence("17", "A ROUND (nobody hears): THE WORLD then");
        AsWasSaid x = Due.in(Due.said("a"), 41);
        T.due("round()", x.round(), 41);
        T.due("count(4): a round all the same", x.count(4), 1);
        T.due("round() again", x.round(), 41);
        T.due("count(4)", x.count(4), 2);
    }

    private static void byNumber() {
        T.sentence("Terms", "A ROUND: all ACT, by number");
        AsWasSaid x = Due.said("a");
        x.hearer(4, 1, 1);
        x.hearer(0, 0, 1);
        x.hearer(4, 2, 1);
        x.hearer(4, 0, 0);
        // the first abbot comes ahead of what the hearer does, the others behind it
        T.due("round()", x.round(), 4);
        T.due("round(): the last one undoes it each time", x.round(), 4);
        T.due("about(1, 5)", x.about(1, 5), 2);
        T.due("about(2, 5)", x.about(2, 5), 1);
        T.due("about(3, 5)", x.about(3, 5), 2);
    }

    private static void roundWithoutSaying() {
        T.sentence("17", "STATE: no SAYING");
        T.refused(States::fresh, "round()", AsWasSaid::round, Due.STATE);
        T.refused(unspoken(), "round()", AsWasSaid::round, Due.STATE);
        T.refused(States::silent, "round()", AsWasSaid::round, Due.STATE);
    }
}
