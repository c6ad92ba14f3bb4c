import java.util.ArrayList;
import java.util.List;

/** All that can be asked of an object without changing it, and, at the end of its use, what can be asked by changing it. */
final class Look {
    private final List<String> asked = new ArrayList<>();
    private final List<Long> answers = new ArrayList<>();
    private final LetterQuay x;

    private Look(LetterQuay x) {
        this.x = x;
    }

    private void add(String call, long answer) {
        asked.add(call);
        answers.add(answer);
    }

    /** Of all but status() and the counts of REFUSED calls. */
    static Look at(LetterQuay x) {
        Look look = new Look(x);
        look.standing();
        look.reckoned();
        return look;
    }

    private void standing() {
        for (int what = 0; what < 15; what++) {
            if (what < 6 || what > 10) {
                add("count(" + what + ")", x.count(what));
            }
        }
        add("alphabet()", x.alphabet());
        add("fault()", x.fault());
        add("stopped()", x.stopped());
        add("misprints()", x.misprints());
        for (int i = 0; i < 7; i++) {
            add("at(" + i + ")", x.at(i));
            for (int what = 0; what < 4; what++) {
                add("of(" + i + ", " + what + ")", x.of(i, what));
            }
            add("drawn(" + i + ", 0)", x.drawn(i, 0));
            add("drawn(" + i + ", 1)", x.drawn(i, 1));
        }
    }

    private void reckoned() {
        for (int i = 0; i < 7; i++) {
            add("asks(" + i + ", 0, 1)", x.asks(i, 0, 1));
            add("asks(" + i + ", 1, 2)", x.asks(i, 1, 2));
            add("breaks(" + (i - 1) + ")", x.breaks(i - 1));
            add("mend(" + i + ")", x.mend(i));
            add("clearest(" + (i - 1) + ")", x.clearest(i - 1));
            add("compare(" + (i - 1) + ")", x.compare(i - 1));
        }
        for (int letter = 1; letter <= 5; letter++) {
            add("whisper(" + letter + ")", x.whisper(letter));
            add("from(" + letter + ")", x.from(letter));
        }
        add("ahead(0, 1)", x.ahead(0, 1));
        add("swaps()", x.swaps());
        add("comes(2, 9)", x.comes(2, 9));
        for (int what = 0; what < 2; what++) {
            add("out(" + what + ")", x.out(what));
            add("ask(" + what + ")", x.ask(what));
            add("right(" + (what - 1) + ")", x.right(what - 1));
            add("fits(" + (what - 1) + ")", x.fits(what - 1));
        }
    }

    /** What can be undone, the TAPE's bytes as ORDERS, what is SAID, both IMAGES: the object is of no use then. */
    static Look atLast(LetterQuay x) {
        Look look = new Look(x);
        for (int n = 0; n < 17; n++) {
            look.add("undo()", x.undo());
        }
        look.standing();
        look.add("orders()", x.orders());
        look.add("fault()", x.fault());
        for (int person = 0; person < x.count(0); person++) {
            for (int letter = 1; letter <= 5; letter++) {
                look.add("says(" + person + ", " + letter + ", 1)", x.says(person, letter, 1));
            }
        }
        for (int k = 0; k < 2; k++) {
            look.add("back(" + k + ")", x.back(k));
            look.standing();
        }
        return look;
    }

    /** The first call that is answered otherwise, or "". */
    String differsFrom(Look other) {
        for (int i = 0; i < asked.size() && i < other.asked.size(); i++) {
            if (!answers.get(i).equals(other.answers.get(i))) {
                return asked.get(i) + " answered " + answers.get(i) + " and " + other.answers.get(i);
            }
        }
        return asked.size() == other.asked.size() ? "" : "one look has more calls than the other one";
    }
}
