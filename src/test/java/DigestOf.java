import java.math.BigInteger;
import java.util.ArrayList;
import java.util.List;

/** The digest as the document tells it, of numbers, or of an object's answers to its other calls. */
final class DigestOf {
    private DigestOf() {
    }

    /** The sum is kept whole, and cut to 64 bits at the end alone. */
    static long numbers(long... numbers) {
        BigInteger h = BigInteger.valueOf(739);
        for (long number : numbers) {
            h = h.multiply(BigInteger.valueOf(31)).add(BigInteger.valueOf(number));
        }
        return h.longValue();
    }

    /** The page cannot be asked for its letters: they are given. */
    static long answers(AsWasSaid x, String page) {
        List<Integer> all = new ArrayList<>();
        for (int letter = 0; letter < 6; letter++) {
            all.add(x.sense(letter));
        }
        for (int fact = 0; fact < 6; fact++) {
            all.add(x.fact(fact));
        }
        for (int hearer = 0; hearer < x.count(3); hearer++) {
            for (int what = 0; what <= 5; what++) {
                all.add(x.about(hearer, what));
            }
        }
        if (x.count(1) > 0) {
            all.addAll(List.of(x.come(0), x.come(1), x.anyhow(), x.left(0), x.left(1), x.left(2), x.ask()));
        }
        for (int hearer = 0; hearer < x.count(3) && x.count(1) > 0 && x.count(6) > 0; hearer++) {
            all.addAll(List.of(x.fits(hearer, 0), x.fits(hearer, 1)));
        }
        for (int place = 0; place < page.length(); place++) {
            all.add((int) page.charAt(place));
        }
        for (int what = 0; what <= 9; what++) {
            all.add(x.count(what));
        }
        return numbers(all.stream().mapToLong(Integer::longValue).toArray());
    }
}
