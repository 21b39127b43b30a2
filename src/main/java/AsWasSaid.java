/** An oracle's sayings in all their readings, and the hearers who act by them. */
public final class AsWasSaid {
    public static final int NONE = -1, UNKNOWN = -101, OUTSIDE = -102, STATE = -103, FULL = -104;

    private static final int FACTS = 6;
    private static final int ALL_FACTS = 63;
    private static final int WORLDS = 64;
    private static final int MOST_LETTERS = 14;
    private static final int FIRST_CODE = 32;
    private static final int LAST_CODE = 126;
    private static final int MOST_WORDS = 4;
    private static final int MOST_READINGS = 640;
    private static final int MOST_HEARERS = 4;
    private static final int MOST_TOLD = 6;
    private static final int MOST_ADDS = 60;
    private static final int MOST_TIMES = 60;
    private static final int WORDS_TO_ADD = 24;

    private static final int HEARER = 0;
    private static final int FOOL = 1;
    private static final int KING = 2;
    private static final int PRIEST = 3;
    private static final int ABBOT = 4;

    /** Of each fact the worlds in which it is so: bit w for world w. */
    private static final long[] WORLDS_OF_FACT = {
        0xAAAAAAAAAAAAAAAAL, 0xCCCCCCCCCCCCCCCCL, 0xF0F0F0F0F0F0F0F0L,
        0xFF00FF00FF00FF00L, 0xFFFF0000FFFF0000L, 0xFFFFFFFF00000000L
    };

    private final Page page;
    private final int[] secondSenses;
    private final Saying saying;
    private final Saying other;
    private final Saying longer;
    private final Hearers hearers;
    private final Told told;
    private final Image kept;
    private int world;
    private int rounds;
    private int timesSaid;
    private int timesAdded;

    public AsWasSaid() {
        page = new Page();
        secondSenses = new int[FACTS];
        for (int letter = 0; letter < secondSenses.length; letter++) {
            secondSenses[letter] = letter;
        }
        saying = new Saying();
        other = new Saying();
        longer = new Saying();
        hearers = new Hearers();
        told = new Told();
        kept = new Image();
    }

    // ---- texts

    public int letter(int code) {
        if (code < FIRST_CODE || code > LAST_CODE) {
            return OUTSIDE;
        }
        return page.write(code) ? page.length : FULL;
    }

    public int blank() {
        return page.clear();
    }

    public int fault(int sort) {
        switch (sort) {
            case 0: return page.faultAsSaying();
            case 1: return page.faultAsSenses();
            default: return OUTSIDE;
        }
    }

    public int say() {
        if (!page.isSaying()) {
            return STATE;
        }
        other.become(saying);
        other.workOut(secondSenses);
        saying.read(page);
        saying.workOut(secondSenses);
        page.clear();
        timesSaid++;
        return saying.readings;
    }

    public int senses() {
        if (!page.isSenses()) {
            return STATE;
        }
        int unlike = 0;
        for (int letter = 0; letter < secondSenses.length; letter++) {
            secondSenses[letter] = page.codeAt(letter) - '0';
            if (secondSenses[letter] != letter) {
                unlike++;
            }
        }
        saying.workOut(secondSenses);
        other.workOut(secondSenses);
        page.clear();
        return unlike;
    }

    public int sense(int letter) {
        if (letter < 0 || letter >= secondSenses.length) {
            return UNKNOWN;
        }
        return secondSenses[letter];
    }

    // ---- readings

    public int reading(int reading) {
        if (!saying.hasReading(reading)) {
            return UNKNOWN;
        }
        return Long.bitCount(saying.truth(reading));
    }

    public int isSo(int reading, int world) {
        if (!saying.hasReading(reading) || !isWorld(world)) {
            return UNKNOWN;
        }
        return bitOf(saying.truth(reading), world);
    }

    public int come(int what) {
        if (what < 0 || what > 1) {
            return OUTSIDE;
        }
        if (saying.isNone()) {
            return STATE;
        }
        return what == 0 ? saying.readingsSoIn(world) : saying.firstReadingSoIn(world);
    }

    // ---- the world, hearers

    public int fact(int fact) {
        return isFact(fact) ? bitOf(world, fact) : UNKNOWN;
    }

    public int set(int fact, int v) {
        if (!isFact(fact)) {
            return UNKNOWN;
        }
        if (!isValue(v)) {
            return OUTSIDE;
        }
        int was = bitOf(world, fact);
        world = withFact(world, fact, v);
        return was;
    }

    public int hearer(int kind, int fact, int value) {
        if (!isFact(fact)) {
            return UNKNOWN;
        }
        if (!isKind(kind) || !isValue(value)) {
            return OUTSIDE;
        }
        return hearers.join(kind, fact, value) ? hearers.number - 1 : FULL;
    }

    public int about(int hearer, int what) {
        if (!hearers.has(hearer)) {
            return UNKNOWN;
        }
        switch (what) {
            case 0: return hearers.kindOf(hearer);
            case 1: return hearers.factOf(hearer);
            case 2: return hearers.valueOf(hearer);
            case 3: return taken(hearer);
            case 4: return actsNow(hearer) ? 1 : 0;
            case 5: return hearers.changesOf(hearer);
            default: return OUTSIDE;
        }
    }

    public int as(int hearer, int kind) {
        if (!hearers.has(hearer)) {
            return UNKNOWN;
        }
        if (!isKind(kind)) {
            return OUTSIDE;
        }
        return isOfKind(hearers.kindOf(hearer), kind) ? hearer : NONE;
    }

    public int act(int hearer) {
        if (!hearers.has(hearer)) {
            return UNKNOWN;
        }
        if (saying.isNone()) {
            return STATE;
        }
        letAct(hearer);
        return world;
    }

    public int round() {
        if (saying.isNone()) {
            return STATE;
        }
        for (int hearer = 0; hearer < hearers.number; hearer++) {
            letAct(hearer);
        }
        rounds++;
        return world;
    }

    // ---- what would be

    public int anyhow() {
        if (saying.isNone()) {
            return STATE;
        }
        int from = 0;
        for (int start = 0; start < WORLDS; start++) {
            from += bitOf(saying.some, behindRound(start));
        }
        return from;
    }

    public int left(int what) {
        if (what < 0 || what > 2) {
            return OUTSIDE;
        }
        if (saying.isNone()) {
            return STATE;
        }
        long worlds = worldsLeft();
        switch (what) {
            case 0: return Long.bitCount(worlds);
            case 1: return factsSoInAll(worlds);
            default: return factsSoInNone(worlds);
        }
    }

    public int ask() {
        if (saying.isNone()) {
            return STATE;
        }
        int best = 0;
        int fewest = leftAtWorst(0);
        for (int fact = 1; fact < FACTS; fact++) {
            int worst = leftAtWorst(fact);
            if (worst < fewest) {
                fewest = worst;
                best = fact;
            }
        }
        return best;
    }

    public int add(int what) {
        if (what < 0 || what > 1) {
            return OUTSIDE;
        }
        if (saying.isNone() || saying.words >= MOST_WORDS || timesAdded >= MOST_ADDS) {
            return STATE;
        }
        timesAdded++;
        int best = 0;
        int most = readingsWith(0);
        for (int word = 1; word < WORDS_TO_ADD; word++) {
            int readings = readingsWith(word);
            if (readings > most) {
                most = readings;
                best = word;
            }
        }
        return what == 0 ? best : most;
    }

    // ---- told back

    public int tell(int world) {
        if (!isWorld(world)) {
            return UNKNOWN;
        }
        int were = told.number;
        told.number = 0;
        told.append(world);
        return were;
    }

    public int then(int world) {
        if (told.number == 0) {
            return STATE;
        }
        if (!isWorld(world)) {
            return UNKNOWN;
        }
        return told.append(world) ? told.number : FULL;
    }

    public int fits(int hearer, int what) {
        if (!hearers.has(hearer)) {
            return UNKNOWN;
        }
        if (what < 0 || what > 1) {
            return OUTSIDE;
        }
        if (saying.isNone() || told.number == 0) {
            return STATE;
        }
        int fitting = 0;
        int first = NONE;
        for (int reading = 0; reading < saying.readings; reading++) {
            if (doesFit(hearer, reading)) {
                first = fitting == 0 ? reading : first;
                fitting++;
            }
        }
        return what == 0 ? fitting : first;
    }

    public int times(int times, int seed, int what) {
        if (times < 1 || times > MOST_TIMES || seed < 0 || what < 0 || what > 2) {
            return OUTSIDE;
        }
        if (saying.isNone()) {
            return STATE;
        }
        int then = world;
        int drawn = seed;
        int so = 0;
        for (int time = 0; time < times; time++) {
            drawn = nextSeed(drawn);
            if (drawOf(drawn, 2) == 0) {
                then = behindRound(then);
            } else {
                drawn = nextSeed(drawn);
                then ^= 1 << drawOf(drawn, FACTS);
            }
            so += bitOf(saying.some, then);
        }
        return what == 0 ? then : what == 1 ? so : drawn;
    }

    // ---- what is told of all

    public int image() {
        kept.isKept = true;
        kept.world = world;
        kept.rounds = rounds;
        kept.hearers.become(hearers);
        kept.told.become(told);
        return world;
    }

    public int restore() {
        if (!kept.isKept) {
            return STATE;
        }
        world = kept.world;
        rounds = kept.rounds;
        hearers.become(kept.hearers);
        told.become(kept.told);
        return world;
    }

    public int count(int what) {
        switch (what) {
            case 0: return saying.readings;
            case 1: return saying.words;
            case 2: return other.readings;
            case 3: return hearers.number;
            case 4: return rounds;
            case 5: return world;
            case 6: return told.number;
            case 7: return page.length;
            case 8: return timesSaid;
            case 9: return timesAdded;
            default: return OUTSIDE;
        }
    }

    public long digest() {
        long h = 739;
        for (int letter = 0; letter < FACTS; letter++) {
            h = mixed(h, sense(letter));
        }
        for (int fact = 0; fact < FACTS; fact++) {
            h = mixed(h, fact(fact));
        }
        h = mixedWithHearers(h);
        if (!saying.isNone()) {
            h = mixedWithSaying(h);
            if (told.number > 0) {
                h = mixedWithFits(h);
            }
        }
        for (int place = 0; place < page.length; place++) {
            h = mixed(h, page.codeAt(place));
        }
        for (int what = 0; what <= 9; what++) {
            h = mixed(h, count(what));
        }
        return h;
    }

    private static long mixed(long h, long number) {
        return 31 * h + number;
    }

    private long mixedWithHearers(long h) {
        long mix = h;
        for (int hearer = 0; hearer < hearers.number; hearer++) {
            for (int what = 0; what <= 5; what++) {
                mix = mixed(mix, about(hearer, what));
            }
        }
        return mix;
    }

    private long mixedWithSaying(long h) {
        long mix = mixed(mixed(h, come(0)), come(1));
        mix = mixed(mix, anyhow());
        for (int what = 0; what <= 2; what++) {
            mix = mixed(mix, left(what));
        }
        return mixed(mix, ask());
    }

    private long mixedWithFits(long h) {
        long mix = h;
        for (int hearer = 0; hearer < hearers.number; hearer++) {
            mix = mixed(mixed(mix, fits(hearer, 0)), fits(hearer, 1));
        }
        return mix;
    }

    // ---- facts, values, worlds, kinds

    private static boolean isFact(int fact) {
        return fact >= 0 && fact < FACTS;
    }

    private static boolean isValue(int value) {
        return value == 0 || value == 1;
    }

    private static boolean isWorld(int world) {
        return world >= 0 && world < WORLDS;
    }

    private static boolean isKind(int kind) {
        return kind >= HEARER && kind <= ABBOT;
    }

    private static boolean isOfKind(int own, int kind) {
        return kind == HEARER || kind == own || (kind == PRIEST && own == ABBOT);
    }

    private static int bitOf(long bits, int place) {
        return (int) ((bits >>> place) & 1L);
    }

    private static int withFact(int world, int fact, int value) {
        return (world & ~(1 << fact)) | (value << fact);
    }

    private static long worldsOfFact(int fact) {
        return fact >= 0 && fact < WORLDS_OF_FACT.length ? WORLDS_OF_FACT[fact] : 0L;
    }

    // ---- what hearers take and do

    private int taken(int hearer) {
        if (saying.isNone()) {
            return NONE;
        }
        switch (hearers.kindOf(hearer)) {
            case FOOL: return saying.readings - 1;
            case KING: return saying.widest;
            case PRIEST:
            case ABBOT: return saying.narrowest;
            default: return 0;
        }
    }

    private boolean actsNow(int hearer) {
        return !saying.isNone() && actsBy(hearer, taken(hearer), world);
    }

    private boolean actsBy(int hearer, int reading, int from) {
        boolean so = bitOf(saying.truth(reading), from) == 1;
        return hearers.kindOf(hearer) == ABBOT ? so : !so;
    }

    private int behindAct(int hearer, int reading, int from) {
        if (!actsBy(hearer, reading, from)) {
            return from;
        }
        return withFact(from, hearers.factOf(hearer), hearers.valueOf(hearer));
    }

    private int behindRound(int from) {
        int behind = from;
        for (int hearer = 0; hearer < hearers.number; hearer++) {
            behind = behindAct(hearer, taken(hearer), behind);
        }
        return behind;
    }

    private void letAct(int hearer) {
        int behind = behindAct(hearer, taken(hearer), world);
        if (behind != world) {
            hearers.countChange(hearer);
        }
        world = behind;
    }

    // ---- what would be left, or so

    private long worldsLeft() {
        return other.isNone() ? saying.some : saying.some & other.some;
    }

    private static int factsSoInAll(long worlds) {
        int facts = 0;
        for (int fact = 0; fact < FACTS; fact++) {
            if ((worlds & ~worldsOfFact(fact)) == 0L) {
                facts |= 1 << fact;
            }
        }
        return facts;
    }

    private static int factsSoInNone(long worlds) {
        int facts = ALL_FACTS;
        for (int fact = 0; fact < FACTS; fact++) {
            if ((worlds & worldsOfFact(fact)) != 0L) {
                facts &= ~(1 << fact);
            }
        }
        return facts;
    }

    private int leftAtWorst(int fact) {
        int ifSo = Long.bitCount(saying.some & worldsOfFact(fact));
        int ifNot = Long.bitCount(saying.some & ~worldsOfFact(fact));
        return Math.max(ifSo, ifNot);
    }

    /** By how many readings the saying with this word more (as add() numbers it) is so in the world. */
    private int readingsWith(int word) {
        boolean plus = word >= 12;
        boolean negated = word % 12 >= 6;
        longer.become(saying);
        longer.append(plus, negated, word % 6);
        longer.workOutReadings(secondSenses);
        return longer.readingsSoIn(world);
    }

    // ---- what fits the worlds that are told

    private boolean doesFit(int hearer, int reading) {
        for (int step = 1; step < told.number; step++) {
            if (behindAct(hearer, reading, told.worldAt(step - 1)) != told.worldAt(step)) {
                return false;
            }
        }
        return true;
    }

    // ---- draws

    private static int nextSeed(int seed) {
        return (int) ((1103515245L * seed + 12345L) & 0x7FFFFFFFL);
    }

    private static int drawOf(int seed, int ways) {
        return ways > 0 ? (seed / 65536) % ways : 0;
    }

    /** The letters that have come, not read so far. */
    private static final class Page {
        private final int[] codes;
        private int length;

        Page() {
            codes = new int[MOST_LETTERS];
        }

        boolean write(int code) {
            if (length < 0 || length >= codes.length) {
                return false;
            }
            codes[length] = code;
            length++;
            return true;
        }

        int clear() {
            int had = length;
            length = 0;
            return had;
        }

        int codeAt(int place) {
            return place >= 0 && place < length && place < codes.length ? codes[place] : NONE;
        }

        int faultAsSaying() {
            int words = 0;
            boolean negated = false;
            boolean wordIsDue = true;
            for (int place = 0; place < length; place++) {
                int code = codeAt(place);
                if (wordIsDue && isWordLetter(code)) {
                    words++;
                    negated = false;
                    wordIsDue = false;
                } else if (wordIsDue && code == 'n' && !negated) {
                    negated = true;
                } else if (!wordIsDue && words < MOST_WORDS && isJoining(code)) {
                    wordIsDue = true;
                } else {
                    return place;
                }
            }
            return length;
        }

        int faultAsSenses() {
            for (int place = 0; place < length; place++) {
                int code = codeAt(place);
                if (place >= FACTS || code < '0' || code > '5') {
                    return place;
                }
            }
            return length;
        }

        /** What has no fault is a saying if it ends with a word, and not within one or behind a joining. */
        boolean isSaying() {
            return faultAsSaying() == length && isWordLetter(codeAt(length - 1));
        }

        boolean isSenses() {
            return length == FACTS && faultAsSenses() == length;
        }

        private static boolean isWordLetter(int code) {
            return code >= 'a' && code <= 'f';
        }

        private static boolean isJoining(int code) {
            return code == '&' || code == '+';
        }
    }

    /** Up to four words with their joinings, and in which worlds each reading of them is so. */
    private static final class Saying {
        private final int[] letters;
        private final boolean[] negations;
        /** Whether a "+" stands ahead of the word. */
        private final boolean[] pluses;
        private final long[] firstTruths;
        private final long[] secondTruths;
        private final long[] truths;
        private int words;
        private int readings;
        private int widest;
        private int narrowest;
        /** The worlds in which some reading is so. */
        private long some;

        Saying() {
            letters = new int[MOST_WORDS];
            negations = new boolean[MOST_WORDS];
            pluses = new boolean[MOST_WORDS];
            firstTruths = new long[MOST_WORDS];
            secondTruths = new long[MOST_WORDS];
            truths = new long[MOST_READINGS];
        }

        boolean isNone() {
            return words == 0;
        }

        boolean hasReading(int reading) {
            return reading >= 0 && reading < readings;
        }

        long truth(int reading) {
            return reading >= 0 && reading < readings && reading < truths.length ? truths[reading] : 0L;
        }

        void read(Page page) {
            words = 0;
            boolean plus = false;
            boolean negated = false;
            for (int place = 0; place < page.length; place++) {
                int code = page.codeAt(place);
                if (code == 'n') {
                    negated = true;
                } else if (Page.isJoining(code)) {
                    plus = code == '+';
                } else {
                    append(plus, negated, code - 'a');
                    negated = false;
                }
            }
        }

        void append(boolean plus, boolean negated, int letter) {
            if (words < 0 || words >= MOST_WORDS) {
                return;
            }
            pluses[words] = plus;
            negations[words] = negated;
            letters[words] = letter;
            words++;
        }

        /** The words alone: the readings are to be worked out then. */
        void become(Saying model) {
            words = 0;
            for (int word = 0; word < model.words && word < MOST_WORDS; word++) {
                append(model.pluses[word], model.negations[word], model.letters[word]);
            }
        }

        void workOut(int[] secondSenses) {
            workOutReadings(secondSenses);
            weigh();
        }

        void workOutReadings(int[] secondSenses) {
            readings = 0;
            if (isNone()) {
                return;
            }
            workOutWords(secondSenses);
            int waysOfPluses = 1 << countPluses();
            int waysOfSenses = 1 << words;
            for (int brackets = 0; brackets < bracketings(); brackets++) {
                for (int way = 0; way < waysOfPluses; way++) {
                    int ors = joiningsThatAreOr(way);
                    for (int seconds = 0; seconds < waysOfSenses && readings < truths.length; seconds++) {
                        truths[readings] = truthOf(brackets, ors, seconds);
                        readings++;
                    }
                }
            }
        }

        private void workOutWords(int[] secondSenses) {
            for (int word = 0; word < words && word < MOST_WORDS; word++) {
                int letter = letters[word];
                int second = letter >= 0 && letter < secondSenses.length ? secondSenses[letter] : letter;
                long change = negations[word] ? -1L : 0L;
                firstTruths[word] = worldsOfFact(letter) ^ change;
                secondTruths[word] = worldsOfFact(second) ^ change;
            }
        }

        private int countPluses() {
            int number = 0;
            for (int word = 1; word < words && word < MOST_WORDS; word++) {
                number += pluses[word] ? 1 : 0;
            }
            return number;
        }

        private int bracketings() {
            return words == 4 ? 5 : words == 3 ? 2 : 1;
        }

        /** A way has a bit for each "+"; what comes out has a bit for each joining. */
        private int joiningsThatAreOr(int way) {
            int ors = 0;
            int plus = 0;
            for (int word = 1; word < words && word < MOST_WORDS; word++) {
                if (pluses[word]) {
                    ors |= bitOf(way, plus) << (word - 1);
                    plus++;
                }
            }
            return ors;
        }

        private long truthOf(int brackets, int ors, int seconds) {
            switch (words) {
                case 1: return wordTruth(0, seconds);
                case 2: return joined(ors, 0, wordTruth(0, seconds), wordTruth(1, seconds));
                case 3: return truthOfThree(brackets, ors, seconds);
                default: return truthOfFour(brackets, ors, seconds);
            }
        }

        private long truthOfThree(int brackets, int ors, int seconds) {
            long one = wordTruth(0, seconds);
            long two = wordTruth(1, seconds);
            long three = wordTruth(2, seconds);
            if (brackets == 0) {
                return joined(ors, 1, joined(ors, 0, one, two), three);
            }
            return joined(ors, 0, one, joined(ors, 1, two, three));
        }

        private long truthOfFour(int brackets, int ors, int seconds) {
            long one = wordTruth(0, seconds);
            long two = wordTruth(1, seconds);
            long three = wordTruth(2, seconds);
            long four = wordTruth(3, seconds);
            switch (brackets) {
                case 0: return joined(ors, 2, joined(ors, 1, joined(ors, 0, one, two), three), four);
                case 1: return joined(ors, 2, joined(ors, 0, one, joined(ors, 1, two, three)), four);
                case 2: return joined(ors, 1, joined(ors, 0, one, two), joined(ors, 2, three, four));
                case 3: return joined(ors, 0, one, joined(ors, 2, joined(ors, 1, two, three), four));
                default: return joined(ors, 0, one, joined(ors, 1, two, joined(ors, 2, three, four)));
            }
        }

        private long wordTruth(int word, int seconds) {
            if (word < 0 || word >= MOST_WORDS) {
                return 0L;
            }
            return (seconds & (1 << word)) != 0 ? secondTruths[word] : firstTruths[word];
        }

        private static long joined(int ors, int joining, long left, long right) {
            return (ors & (1 << joining)) != 0 ? left | right : left & right;
        }

        private void weigh() {
            some = 0L;
            widest = 0;
            narrowest = 0;
            int most = -1;
            int fewest = WORLDS + 1;
            for (int reading = 0; reading < readings && reading < truths.length; reading++) {
                some |= truths[reading];
                int worlds = Long.bitCount(truths[reading]);
                if (worlds > most) {
                    most = worlds;
                    widest = reading;
                }
                if (worlds < fewest) {
                    fewest = worlds;
                    narrowest = reading;
                }
            }
        }

        int readingsSoIn(int world) {
            int so = 0;
            for (int reading = 0; reading < readings; reading++) {
                so += bitOf(truth(reading), world);
            }
            return so;
        }

        int firstReadingSoIn(int world) {
            for (int reading = 0; reading < readings; reading++) {
                if (bitOf(truth(reading), world) == 1) {
                    return reading;
                }
            }
            return NONE;
        }
    }

    /** Those who hear: of each his kind, his fact, his value, and how often his fact changed by him. */
    private static final class Hearers {
        private final int[] kinds;
        private final int[] facts;
        private final int[] values;
        private final int[] changes;
        private int number;

        Hearers() {
            kinds = new int[MOST_HEARERS];
            facts = new int[MOST_HEARERS];
            values = new int[MOST_HEARERS];
            changes = new int[MOST_HEARERS];
        }

        boolean has(int hearer) {
            return hearer >= 0 && hearer < number && hearer < MOST_HEARERS;
        }

        boolean join(int kind, int fact, int value) {
            if (number < 0 || number >= MOST_HEARERS) {
                return false;
            }
            kinds[number] = kind;
            facts[number] = fact;
            values[number] = value;
            changes[number] = 0;
            number++;
            return true;
        }

        int kindOf(int hearer) {
            return hearer >= 0 && hearer < number && hearer < kinds.length ? kinds[hearer] : NONE;
        }

        int factOf(int hearer) {
            return hearer >= 0 && hearer < number && hearer < facts.length ? facts[hearer] : NONE;
        }

        int valueOf(int hearer) {
            return hearer >= 0 && hearer < number && hearer < values.length ? values[hearer] : NONE;
        }

        int changesOf(int hearer) {
            return hearer >= 0 && hearer < number && hearer < changes.length ? changes[hearer] : NONE;
        }

        void countChange(int hearer) {
            if (has(hearer)) {
                changes[hearer]++;
            }
        }

        void become(Hearers model) {
            number = 0;
            for (int hearer = 0; hearer < model.number && hearer < MOST_HEARERS; hearer++) {
                kinds[hearer] = model.kinds[hearer];
                facts[hearer] = model.facts[hearer];
                values[hearer] = model.values[hearer];
                changes[hearer] = model.changes[hearer];
                number++;
            }
        }
    }

    /** Worlds one behind the other: none as long as it has not begun. */
    private static final class Told {
        private final int[] worlds;
        private int number;

        Told() {
            worlds = new int[MOST_TOLD];
        }

        boolean append(int world) {
            if (number < 0 || number >= worlds.length) {
                return false;
            }
            worlds[number] = world;
            number++;
            return true;
        }

        int worldAt(int place) {
            return place >= 0 && place < number && place < worlds.length ? worlds[place] : NONE;
        }

        void become(Told model) {
            number = 0;
            for (int place = 0; place < model.number; place++) {
                append(model.worldAt(place));
            }
        }
    }

    /** What image() keeps for restore(). */
    private static final class Image {
        private final Hearers hearers;
        private final Told told;
        private boolean isKept;
        private int world;
        private int rounds;

        Image() {
            hearers = new Hearers();
            told = new Told();
        }
    }
}
