import java.util.List;
import java.util.Set;
import java.util.TreeSet;
import java.util.function.Supplier;
import java.util.function.ToIntBiFunction;
import java.util.function.ToIntFunction;

/** What the tests share: compares answers with those that are due, and tells which are not. */
final class Due {
    static final int NONE = -1, UNKNOWN = -101, OUTSIDE = -102, STATE = -103, FULL = -104;

    private static final int[] FAR = {Integer.MIN_VALUE, -65536, -64, -1, 64, 256, 65536, Integer.MAX_VALUE};

    private final String test;
    private String sentence = "";
    private int checks;
    private int wrong;

    Due(String test) {
        this.test = test;
    }

    /** Of what promise (or passage) the answers from here on are a test, and of which words there. */
    void sentence(String where, String words) {
        sentence = " [" + where + ": " + words + "]";
    }

    void due(String call, long got, long want) {
        checks++;
        if (got != want) {
            wrong++;
            System.out.println(test + sentence + ": " + call + " answered " + got + ", due is " + want);
        }
    }

    /** The call is refused so, and the object's digest is the same as ahead of it. */
    void refused(AsWasSaid x, String call, long before, long got, long want) {
        due(call, got, want);
        due("digest() behind the refused " + call, x.digest(), before);
    }

    /** The call is refused so in a state, and all later answers are those of an object on which it was not done. */
    void refused(Supplier<AsWasSaid> state, String call, ToIntFunction<AsWasSaid> done, int want) {
        AsWasSaid x = state.get();
        AsWasSaid twin = state.get();
        due(call, done.applyAsInt(x), want);
        List<Long> answers = Everything.of(x);
        List<Long> twins = Everything.of(twin);
        for (int i = 0; i < twins.size(); i++) {
            due("answer " + i + " of everything behind the refused " + call, answers.get(i), twins.get(i));
        }
    }

    /** The call is refused so for the number below the least one, for the one above the most, and for those far off. */
    void refusedBeside(int least, int most, Supplier<AsWasSaid> state, String call,
            ToIntBiFunction<AsWasSaid, Integer> done, int want) {
        for (int number : beside(least, most)) {
            refused(state, call.replace("_", String.valueOf(number)), x -> done.applyAsInt(x, number), want);
        }
    }

    private static Set<Integer> beside(int least, int most) {
        Set<Integer> numbers = new TreeSet<>();
        numbers.add(least - 1);
        numbers.add(most + 1);
        for (int far : FAR) {
            if (far < least || far > most) {
                numbers.add(far);
            }
        }
        return numbers;
    }

    void end() {
        System.out.println(test + ": " + (checks - wrong) + " of " + checks + " answers as due");
        if (wrong != 0) {
            System.exit(1);
        }
    }

    static AsWasSaid written(AsWasSaid x, String text) {
        x.blank();
        for (int i = 0; i < text.length(); i++) {
            x.letter(text.charAt(i));
        }
        return x;
    }

    static AsWasSaid said(AsWasSaid x, String text) {
        written(x, text).say();
        return x;
    }

    static AsWasSaid said(String text) {
        return said(new AsWasSaid(), text);
    }

    static AsWasSaid sensed(AsWasSaid x, String text) {
        written(x, text).senses();
        return x;
    }

    static AsWasSaid in(AsWasSaid x, int world) {
        for (int fact = 0; fact < 6; fact++) {
            x.set(fact, (world >> fact) & 1);
        }
        return x;
    }
}
