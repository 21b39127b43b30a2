import java.util.ArrayList;
import java.util.List;

/** All that an object can be asked, in one order, first what changes nothing: some 300 calls. */
final class Everything {
    private final AsWasSaid x;
    private final List<Long> answers = new ArrayList<>();

    private Everything(AsWasSaid x) {
        this.x = x;
    }

    /** The object is another one then. */
    static List<Long> of(AsWasSaid x) {
        Everything all = new Everything(x);
        all.asked();
        all.done();
        all.restored();
        all.readAnew();
        return all.answers;
    }

    private void tell(long answer) {
        answers.add(answer);
    }

    private void asked() {
        tell(x.digest());
        tell(x.fault(0));
        tell(x.fault(1));
        for (int reading = 0; reading < 64; reading++) {
            tell(x.reading(reading));
        }
        for (int what = 0; what < 3; what++) {
            tell(x.times(17, 5, what));
        }
        for (int hearer = 0; hearer < 4; hearer++) {
            tell(x.as(hearer, 3));
            tell(x.as(hearer, 4));
        }
    }

    private void done() {
        tell(x.add(0));
        tell(x.add(1));
        tell(x.act(0));
        tell(x.round());
        tell(x.digest());
        tell(x.then(9));
        tell(x.hearer(3, 5, 1));
        tell(x.letter('a'));
        tell(x.say());
        tell(x.digest());
    }

    private void restored() {
        tell(x.restore());
        tell(x.digest());
        tell(x.then(10));
        tell(x.hearer(4, 4, 1));
        tell(x.hearer(2, 3, 1));
        tell(x.digest());
    }

    private void readAnew() {
        for (String text : new String[] {"543210", "a+b", "012345", "nc+d&e", "f"}) {
            tell(x.blank());
            for (int place = 0; place < text.length(); place++) {
                tell(x.letter(text.charAt(place)));
            }
            tell(x.senses());
            tell(x.say());
            tell(x.digest());
            tell(x.round());
        }
        tell(x.tell(3));
        tell(x.then(7));
        tell(x.digest());
        for (int time = 0; time < 62; time++) {
            tell(x.add(0));
        }
        tell(x.count(9));
    }
}
