/** What the tests share: compares answers with those that are due, and tells which are not. */
final class Due {
    static final int NONE = -1, UNKNOWN = -101, OUTSIDE = -102, STATE = -103, FULL = -104;

    private final String test;
    private int checks;
    private int wrong;

    Due(String test) {
        this.test = test;
    }

    void due(String call, long got, long want) {
        checks++;
        if (got != want) {
            wrong++;
            System.out.println(test + ": " + call + " answered " + got + ", due is " + want);
        }
    }

    /** The call is refused so, and the object's digest is the same as ahead of it. */
    void refused(AsWasSaid x, String call, long before, long got, long want) {
        due(call, got, want);
        due("digest() behind the refused " + call, x.digest(), before);
    }

    void end() {
        System.out.println(test + ": " + (checks - wrong) + " of " + checks + " answers as due");
        if (wrong != 0) {
            System.exit(1);
        }
    }

    static AsWasSaid written(AsWasSaid x, String text) {
        x.blank();
        for (int i = 0; i < text.length(); i++) {
            x.letter(text.charAt(i));
        }
        return x;
    }

    static AsWasSaid said(AsWasSaid x, String text) {
        written(x, text).say();
        return x;
    }

    static AsWasSaid said(String text) {
        return said(new AsWasSaid(), text);
    }

    static AsWasSaid sensed(AsWasSaid x, String text) {
        written(x, text).senses();
        return x;
    }

    static AsWasSaid in(AsWasSaid x, int world) {
        for (int fact = 0; fact < 6; fact++) {
            x.set(fact, (world >> fact) & 1);
        }
        return x;
    }
}
