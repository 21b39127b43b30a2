/** States in which the edges are tried out. */
final class States {
    private States() {
    }

    static AsWasSaid fresh() {
        return new AsWasSaid();
    }

    /** There is something of all, and room for more of it; the page is neither a saying nor senses. */
    static AsWasSaid rich() {
        AsWasSaid x = Due.said(Due.said("na+b"), "a+nb&c");
        Due.sensed(x, "312345");
        someHearers(x);
        x.round();
        x.add(0);
        x.tell(6);
        x.then(14);
        x.image();
        x.set(4, 1);
        x.act(1);
        x.then(15);
        return Due.written(x, "a&0");
    }

    /** Nothing has room for more. */
    static AsWasSaid full() {
        AsWasSaid x = Due.said(Due.said("na+b"), "a+nb");
        Due.sensed(x, "312345");
        someHearers(x);
        x.hearer(4, 5, 1);
        x.round();
        for (int time = 0; time < 60; time++) {
            x.add(time & 1);
        }
        x.tell(6);
        x.image();
        for (int world = 10; world < 15; world++) {
            x.then(world);
        }
        Due.said(x, "a+nb&c+d");
        return Due.written(x, "na&nb&nc&nd&na");
    }

    /** There is all but a saying. */
    static AsWasSaid silent() {
        AsWasSaid x = Due.sensed(new AsWasSaid(), "312345");
        someHearers(x);
        x.tell(6);
        x.then(14);
        x.image();
        x.set(4, 1);
        return Due.written(x, "a&");
    }

    private static void someHearers(AsWasSaid x) {
        x.hearer(0, 3, 1);
        x.hearer(4, 1, 1);
        x.hearer(2, 2, 0);
    }
}
