import java.util.ArrayList;
import java.util.List;

/** The document once more, told another way: texts by patterns, brackets as trees, one world at a time. */
final class Model {
    private static final String WORD = "n?[a-f]";
    private static final String SAYING = WORD + "([&+]" + WORD + "){0,3}";
    private static final String SENSES = "[0-5]{6}";

    /** A part of a bracketed saying: the word `at`, or `left` and `right` by the joining `at`. */
    private record Tree(int at, Tree left, Tree right) { }

    private record Hearer(int kind, int fact, int value) { }

    private record Kept(int world, int hearers, List<Integer> changes, int rounds, List<Integer> told) { }

    private String page = "";
    private String senses = "012345";
    private String saying;
    private String other;
    private boolean[][] so = {};
    private boolean[][] otherSo = {};
    private int world;
    private final List<Hearer> hearers = new ArrayList<>();
    private final List<Integer> changes = new ArrayList<>();
    private List<Integer> told = new ArrayList<>();
    private int rounds;
    private int timesSaid;
    private int timesAdded;
    private Kept kept;

    // ---- readings of a text

    private static List<Tree> trees(int from, int to) {
        List<Tree> all = new ArrayList<>();
        if (to - from == 1) {
            all.add(new Tree(from, null, null));
        }
        for (int split = to - 1; split > from; split--) {
            for (Tree left : trees(from, split)) {
                for (Tree right : trees(split, to)) {
                    all.add(new Tree(split - 1, left, right));
                }
            }
        }
        return all;
    }

    private boolean[][] table(String text) {
        String[] words = text.split("[&+]");
        String joinings = text.replaceAll("[^&+]", "");
        int pluses = joinings.replace("&", "").length();
        List<boolean[]> all = new ArrayList<>();
        for (Tree tree : trees(0, words.length)) {
            for (int ors = 0; ors < 1 << pluses; ors++) {
                for (int seconds = 0; seconds < 1 << words.length; seconds++) {
                    boolean[] row = new boolean[64];
                    for (int w = 0; w < 64; w++) {
                        row[w] = isSo(tree, words, joinings, ors, seconds, w);
                    }
                    all.add(row);
                }
            }
        }
        return all.toArray(new boolean[0][]);
    }

    private boolean isSo(Tree tree, String[] words, String joinings, int ors, int seconds, int w) {
        if (tree.left() == null) {
            String word = words[tree.at()];
            int letter = word.charAt(word.length() - 1) - 'a';
            boolean second = (seconds >> tree.at()) % 2 == 1;
            int fact = second ? senses.charAt(letter) - '0' : letter;
            boolean isFact = (w >> fact) % 2 == 1;
            return word.startsWith("n") != isFact;
        }
        boolean left = isSo(tree.left(), words, joinings, ors, seconds, w);
        boolean right = isSo(tree.right(), words, joinings, ors, seconds, w);
        int plus = joinings.substring(0, tree.at()).replace("&", "").length();
        boolean or = joinings.charAt(tree.at()) == '+' && (ors >> plus) % 2 == 1;
        return or ? left || right : left && right;
    }

    private void workOut() {
        so = saying == null ? new boolean[0][] : table(saying);
        otherSo = other == null ? new boolean[0][] : table(other);
    }

    private static int worlds(boolean[] row) {
        int number = 0;
        for (boolean is : row) {
            number += is ? 1 : 0;
        }
        return number;
    }

    private static int by(boolean[][] table, int w) {
        int number = 0;
        for (boolean[] row : table) {
            number += row[w] ? 1 : 0;
        }
        return number;
    }

    // ---- texts

    int letter(int code) {
        if (code < 32 || code > 126) {
            return Due.OUTSIDE;
        }
        if (page.length() == 14) {
            return Due.FULL;
        }
        page += (char) code;
        return page.length();
    }

    int blank() {
        int had = page.length();
        page = "";
        return had;
    }

    int fault(int sort) {
        if (sort != 0 && sort != 1) {
            return Due.OUTSIDE;
        }
        int good = 0;
        while (good < page.length() && begins(sort, page.substring(0, good + 1))) {
            good++;
        }
        return good;
    }

    /** Whether some text of the sort begins so: what is lacking at the end is tried out. */
    private static boolean begins(int sort, String text) {
        if (sort == 1) {
            return text.matches("[0-5]{1,6}");
        }
        return text.matches(SAYING) || (text + "a").matches(SAYING);
    }

    int say() {
        if (!page.matches(SAYING)) {
            return Due.STATE;
        }
        other = saying;
        saying = page;
        page = "";
        timesSaid++;
        workOut();
        return so.length;
    }

    int senses() {
        if (!page.matches(SENSES)) {
            return Due.STATE;
        }
        senses = page;
        page = "";
        workOut();
        int unlike = 0;
        for (int i = 0; i < 6; i++) {
            unlike += senses.charAt(i) == "012345".charAt(i) ? 0 : 1;
        }
        return unlike;
    }

    int sense(int letter) {
        return letter < 0 || letter > 5 ? Due.UNKNOWN : senses.charAt(letter) - '0';
    }

    // ---- readings

    int reading(int reading) {
        return reading < 0 || reading >= so.length ? Due.UNKNOWN : worlds(so[reading]);
    }

    int isSo(int reading, int w) {
        if (reading < 0 || reading >= so.length || w < 0 || w > 63) {
            return Due.UNKNOWN;
        }
        return so[reading][w] ? 1 : 0;
    }

    int come(int what) {
        if (what < 0 || what > 1) {
            return Due.OUTSIDE;
        }
        if (saying == null) {
            return Due.STATE;
        }
        if (what == 0) {
            return by(so, world);
        }
        for (int r = 0; r < so.length; r++) {
            if (so[r][world]) {
                return r;
            }
        }
        return Due.NONE;
    }

    // ---- the world, hearers

    int fact(int fact) {
        return fact < 0 || fact > 5 ? Due.UNKNOWN : (world >> fact) % 2;
    }

    int set(int fact, int v) {
        if (fact < 0 || fact > 5) {
            return Due.UNKNOWN;
        }
        if (v < 0 || v > 1) {
            return Due.OUTSIDE;
        }
        int was = fact(fact);
        world = with(world, fact, v);
        return was;
    }

    private static int with(int w, int fact, int value) {
        int is = (w >> fact) % 2;
        return w + (value - is) * (1 << fact);
    }

    int hearer(int kind, int fact, int value) {
        if (fact < 0 || fact > 5) {
            return Due.UNKNOWN;
        }
        if (kind < 0 || kind > 4 || value < 0 || value > 1) {
            return Due.OUTSIDE;
        }
        if (hearers.size() == 4) {
            return Due.FULL;
        }
        hearers.add(new Hearer(kind, fact, value));
        changes.add(0);
        return hearers.size() - 1;
    }

    private boolean lacks(int hearer) {
        return hearer < 0 || hearer >= hearers.size();
    }

    private int takes(Hearer h) {
        if (saying == null) {
            return Due.NONE;
        }
        if (h.kind() == 0) {
            return 0;
        }
        if (h.kind() == 1) {
            return so.length - 1;
        }
        int best = 0;
        for (int r = 1; r < so.length; r++) {
            int more = worlds(so[r]) - worlds(so[best]);
            best = (h.kind() == 2 ? more > 0 : more < 0) ? r : best;
        }
        return best;
    }

    private int behind(Hearer h, int reading, int w) {
        boolean acts = so[reading][w] == (h.kind() == 4);
        return acts ? with(w, h.fact(), h.value()) : w;
    }

    private int behindRound(int w) {
        int then = w;
        for (Hearer h : hearers) {
            then = behind(h, takes(h), then);
        }
        return then;
    }

    int about(int hearer, int what) {
        if (lacks(hearer)) {
            return Due.UNKNOWN;
        }
        if (what < 0 || what > 5) {
            return Due.OUTSIDE;
        }
        Hearer h = hearers.get(hearer);
        boolean acts = saying != null && so[takes(h)][world] == (h.kind() == 4);
        return new int[] {h.kind(), h.fact(), h.value(), takes(h), acts ? 1 : 0, changes.get(hearer)}[what];
    }

    int as(int hearer, int kind) {
        if (lacks(hearer)) {
            return Due.UNKNOWN;
        }
        if (kind < 0 || kind > 4) {
            return Due.OUTSIDE;
        }
        String[] kinds = {"0", "01", "02", "03", "034"};
        return kinds[hearers.get(hearer).kind()].contains(String.valueOf(kind)) ? hearer : Due.NONE;
    }

    int act(int hearer) {
        if (lacks(hearer)) {
            return Due.UNKNOWN;
        }
        if (saying == null) {
            return Due.STATE;
        }
        Hearer h = hearers.get(hearer);
        int then = behind(h, takes(h), world);
        if (then != world) {
            changes.set(hearer, changes.get(hearer) + 1);
        }
        world = then;
        return world;
    }

    int round() {
        if (saying == null) {
            return Due.STATE;
        }
        for (int h = 0; h < hearers.size(); h++) {
            act(h);
        }
        rounds++;
        return world;
    }

    // ---- what would be

    int anyhow() {
        if (saying == null) {
            return Due.STATE;
        }
        int from = 0;
        for (int w = 0; w < 64; w++) {
            from += by(so, behindRound(w)) > 0 ? 1 : 0;
        }
        return from;
    }

    int left(int what) {
        if (what < 0 || what > 2) {
            return Due.OUTSIDE;
        }
        if (saying == null) {
            return Due.STATE;
        }
        int number = 0;
        int all = 63;
        int none = 63;
        for (int w = 0; w < 64; w++) {
            if (by(so, w) > 0 && (other == null || by(otherSo, w) > 0)) {
                number++;
                all &= w;
                none &= 63 - w;
            }
        }
        return new int[] {number, all, none}[what];
    }

    int ask() {
        if (saying == null) {
            return Due.STATE;
        }
        int best = -1;
        int least = 65;
        for (int fact = 0; fact < 6; fact++) {
            int[] left = new int[2];
            for (int w = 0; w < 64; w++) {
                left[(w >> fact) % 2] += by(so, w) > 0 ? 1 : 0;
            }
            int worst = left[0] > left[1] ? left[0] : left[1];
            if (worst < least) {
                least = worst;
                best = fact;
            }
        }
        return best;
    }

    int add(int what) {
        if (what < 0 || what > 1) {
            return Due.OUTSIDE;
        }
        if (saying == null || saying.split("[&+]").length == 4 || timesAdded == 60) {
            return Due.STATE;
        }
        timesAdded++;
        int best = -1;
        int most = -1;
        int word = 0;
        for (String joining : new String[] {"&", "+"}) {
            for (String not : new String[] {"", "n"}) {
                for (char letter = 'a'; letter <= 'f'; letter++) {
                    int readings = by(table(saying + joining + not + letter), world);
                    if (readings > most) {
                        most = readings;
                        best = word;
                    }
                    word++;
                }
            }
        }
        return what == 0 ? best : most;
    }

    // ---- told back

    int tell(int w) {
        if (w < 0 || w > 63) {
            return Due.UNKNOWN;
        }
        int were = told.size();
        told.clear();
        told.add(w);
        return were;
    }

    int then(int w) {
        if (told.isEmpty()) {
            return Due.STATE;
        }
        if (w < 0 || w > 63) {
            return Due.UNKNOWN;
        }
        if (told.size() == 6) {
            return Due.FULL;
        }
        told.add(w);
        return told.size();
    }

    int fits(int hearer, int what) {
        if (lacks(hearer)) {
            return Due.UNKNOWN;
        }
        if (what < 0 || what > 1) {
            return Due.OUTSIDE;
        }
        if (saying == null || told.isEmpty()) {
            return Due.STATE;
        }
        int number = 0;
        int least = Due.NONE;
        for (int r = so.length - 1; r >= 0; r--) {
            List<Integer> would = new ArrayList<>(told.subList(0, 1));
            while (would.size() < told.size()) {
                would.add(behind(hearers.get(hearer), r, would.get(would.size() - 1)));
            }
            if (would.equals(told)) {
                number++;
                least = r;
            }
        }
        return what == 0 ? number : least;
    }

    int times(int times, int seed, int what) {
        if (times < 1 || times > 60 || seed < 0 || what < 0 || what > 2) {
            return Due.OUTSIDE;
        }
        if (saying == null) {
            return Due.STATE;
        }
        long drawn = seed;
        int then = world;
        int often = 0;
        for (int i = 0; i < times; i++) {
            drawn = (1103515245L * drawn + 12345L) % (1L << 31);
            if (drawn / 65536 % 2 == 0) {
                then = behindRound(then);
            } else {
                drawn = (1103515245L * drawn + 12345L) % (1L << 31);
                int fact = (int) (drawn / 65536 % 6);
                then = with(then, fact, 1 - (then >> fact) % 2);
            }
            often += by(so, then) > 0 ? 1 : 0;
        }
        return new int[] {then, often, (int) drawn}[what];
    }

    // ---- what is told of all

    int image() {
        kept = new Kept(world, hearers.size(), List.copyOf(changes), rounds, List.copyOf(told));
        return world;
    }

    int restore() {
        if (kept == null) {
            return Due.STATE;
        }
        world = kept.world();
        while (hearers.size() > kept.hearers()) {
            hearers.remove(hearers.size() - 1);
        }
        changes.clear();
        changes.addAll(kept.changes());
        rounds = kept.rounds();
        told = new ArrayList<>(kept.told());
        return world;
    }

    int count(int what) {
        if (what < 0 || what > 9) {
            return Due.OUTSIDE;
        }
        int words = saying == null ? 0 : saying.split("[&+]").length;
        return new int[] {so.length, words, otherSo.length, hearers.size(), rounds, world, told.size(),
            page.length(), timesSaid, timesAdded}[what];
    }

    long digest() {
        List<Integer> numbers = new ArrayList<>();
        senses.chars().forEach(c -> numbers.add(c - '0'));
        for (int fact = 0; fact < 6; fact++) {
            numbers.add(fact(fact));
        }
        for (int h = 0; h < hearers.size(); h++) {
            for (int what = 0; what < 6; what++) {
                numbers.add(about(h, what));
            }
        }
        if (saying != null) {
            numbers.addAll(List.of(come(0), come(1), anyhow(), left(0), left(1), left(2), ask()));
        }
        for (int h = 0; h < hearers.size() && saying != null && !told.isEmpty(); h++) {
            numbers.addAll(List.of(fits(h, 0), fits(h, 1)));
        }
        page.chars().forEach(numbers::add);
        for (int what = 0; what < 10; what++) {
            numbers.add(count(what));
        }
        long h = 739;
        for (int number : numbers) {
            h = 31 * h + number;
        }
        return h;
    }
}
