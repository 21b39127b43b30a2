import java.util.Random;

/** Runs of calls by fixed seeds, each answer compared with the model's. */
public final class ModelTest {
    private static final Due T = new Due("ModelTest");
    private static final int RUNS = 150;
    private static final int CALLS = 512;
    private static final int[] FAR = {Integer.MIN_VALUE, Integer.MAX_VALUE, -1, 64, 640, 1 << 31, 127, 31, 15};

    private final Random random;
    private final AsWasSaid x = new AsWasSaid();
    private final Model m = new Model();
    private final int run;
    private int calls;

    private ModelTest(int run) {
        this.run = run;
        random = new Random(run);
    }

    public static void main(String[] args) {
        for (int run = 0; run < RUNS; run++) {
            ModelTest test = new ModelTest(run);
            while (test.calls < CALLS - 20) {
                test.step();
            }
        }
        T.end();
    }

    private void due(String call, long got, long want) {
        calls++;
        T.due("run " + run + ", call " + calls + ": " + call, got, want);
    }

    /** A number from 0 to most; now and then one beside that, or far from it. */
    private int number(int most) {
        int way = random.nextInt(24);
        if (way == 0) {
            return FAR[random.nextInt(FAR.length)];
        }
        return way == 1 ? most + 1 : way == 2 ? -1 : random.nextInt(most + 1);
    }

    private void write(String text) {
        for (int i = 0; i < text.length(); i++) {
            due("letter(" + (int) text.charAt(i) + ")", x.letter(text.charAt(i)), m.letter(text.charAt(i)));
        }
        if (random.nextInt(12) == 0) {
            int code = random.nextBoolean() ? number(126) : "abcdefn&+0123456".charAt(random.nextInt(16));
            due("letter(" + code + ")", x.letter(code), m.letter(code));
        }
    }

    private String saying() {
        StringBuilder text = new StringBuilder();
        int words = 1 + random.nextInt(random.nextInt(6) == 0 ? 5 : 4);
        for (int word = 0; word < words; word++) {
            text.append(word == 0 ? "" : random.nextInt(3) == 0 ? "&" : "+");
            text.append(random.nextInt(3) == 0 ? "n" : "").append((char) ('a' + random.nextInt(6)));
        }
        return text.toString();
    }

    private String senses() {
        StringBuilder text = new StringBuilder();
        for (int letter = 0; letter < 6; letter++) {
            text.append((char) ('0' + (random.nextInt(3) == 0 ? random.nextInt(6) : letter)));
        }
        return text.toString();
    }

    private void step() {
        int way = random.nextInt(40);
        if (way < 10) {
            text(way);
        } else if (way < 21) {
            worldAndHearers(way);
        } else if (way < 32) {
            told(way);
        } else {
            whatIs(way);
        }
    }

    private void text(int way) {
        if (way < 3) {
            write(saying());
            due("say()", x.say(), m.say());
        } else if (way < 4) {
            write(senses());
            due("senses()", x.senses(), m.senses());
        } else if (way < 6) {
            due("blank()", x.blank(), m.blank());
        } else if (way < 7) {
            due("say()", x.say(), m.say());
            due("senses()", x.senses(), m.senses());
        } else {
            int sort = number(1);
            due("fault(" + sort + ")", x.fault(sort), m.fault(sort));
            int letter = number(5);
            due("sense(" + letter + ")", x.sense(letter), m.sense(letter));
        }
    }

    private void worldAndHearers(int way) {
        int fact = number(5);
        int value = number(1);
        int kind = number(4);
        int hearer = number(3);
        int what = number(5);
        switch (way) {
            case 10: due("set(" + fact + ", " + value + ")", x.set(fact, value), m.set(fact, value)); break;
            case 11: due("fact(" + fact + ")", x.fact(fact), m.fact(fact)); break;
            case 12:
            case 13:
                due("hearer(" + kind + ", " + fact + ", " + value + ")",
                    x.hearer(kind, fact, value), m.hearer(kind, fact, value));
                break;
            case 14: due("as(" + hearer + ", " + kind + ")", x.as(hearer, kind), m.as(hearer, kind)); break;
            case 15:
            case 16: due("act(" + hearer + ")", x.act(hearer), m.act(hearer)); break;
            case 17: due("round()", x.round(), m.round()); break;
            default: due("about(" + hearer + ", " + what + ")", x.about(hearer, what), m.about(hearer, what));
        }
    }

    private void told(int way) {
        int w = number(63);
        int hearer = number(3);
        int what = number(1);
        switch (way) {
            case 21: due("tell(" + w + ")", x.tell(w), m.tell(w)); break;
            case 22:
            case 23: due("then(" + w + ")", x.then(w), m.then(w)); break;
            case 24:
            case 25: tellWhatWouldBe(); break;
            case 26:
            case 27: due("fits(" + hearer + ", " + what + ")", x.fits(hearer, what), m.fits(hearer, what)); break;
            case 28: due("image()", x.image(), m.image()); break;
            case 29: due("restore()", x.restore(), m.restore()); break;
            default: times();
        }
    }

    /** Tells what one hearer does, so that some reading fits. */
    private void tellWhatWouldBe() {
        int hearer = number(3);
        due("tell(the world)", x.tell(x.count(5)), m.tell(m.count(5)));
        for (int step = random.nextInt(4); step > 0; step--) {
            int w = x.act(hearer);
            due("act(" + hearer + ")", w, m.act(hearer));
            due("then(" + w + ")", x.then(w), m.then(w));
        }
        due("fits(" + hearer + ", 0)", x.fits(hearer, 0), m.fits(hearer, 0));
        due("fits(" + hearer + ", 1)", x.fits(hearer, 1), m.fits(hearer, 1));
    }

    private void times() {
        int times = number(60);
        int seed = random.nextInt(10) == 0 ? random.nextInt() : random.nextInt(Integer.MAX_VALUE);
        int what = number(2);
        due("times(" + times + ", " + seed + ", " + what + ")",
            x.times(times, seed, what), m.times(times, seed, what));
    }

    private void whatIs(int way) {
        int reading = number(Math.max(m.count(0) - 1, 0));
        int w = number(63);
        int what = number(2);
        switch (way) {
            case 32: due("reading(" + reading + ")", x.reading(reading), m.reading(reading)); break;
            case 33: due("isSo(" + reading + ", " + w + ")", x.isSo(reading, w), m.isSo(reading, w)); break;
            case 34: due("come(" + what + ")", x.come(what), m.come(what)); break;
            case 35: due("anyhow()", x.anyhow(), m.anyhow()); break;
            case 36: due("left(" + what + ")", x.left(what), m.left(what)); break;
            case 37: due("ask()", x.ask(), m.ask()); break;
            case 38:
                // the model takes long over three words: they are added to more seldom
                if (m.count(1) < 3 || random.nextInt(4) == 0) {
                    due("add(" + what + ")", x.add(what), m.add(what));
                }
                break;
            default:
                what = number(9);
                due("count(" + what + ")", x.count(what), m.count(what));
                due("digest()", x.digest(), m.digest());
        }
    }
}
