/** Promises 28 to 31: what was heard, alphabets by it, which two to ask for. */
public final class HeardTest {
    private static final Check CHECK = new Check();

    public static void main(String[] args) {
        heard();
        fits();
        ask();
        CHECK.finish();
    }

    private static void heard() {
        CHECK.part("28 heard, 29 forget");
        LetterQuay x = Check.quay(1, 2, 3);
        CHECK.due("forget()", x.forget(), 0);
        CHECK.due("heard(0, 0)", x.heard(0, 0), -1);
        CHECK.due("heard(9, 9): one alone comes first", x.heard(9, 9), -1);
        CHECK.due("heard(0, 3)", x.heard(0, 3), -2);
        CHECK.due("heard(3, 0)", x.heard(3, 0), -2);
        CHECK.due("heard(-1, 0)", x.heard(-1, 0), -2);
        CHECK.due("status()", x.status(), -2);
        for (int n = 1; n <= 8; n++) {
            CHECK.due("heard(1, 0)", x.heard(1, 0), n);
        }
        CHECK.due("a ninth heard()", x.heard(1, 0), -5);
        CHECK.due("a ninth heard() of one alone", x.heard(1, 1), -1);
        CHECK.due("a ninth heard() of nobody", x.heard(1, 3), -2);
        CHECK.due("count(2)", x.count(2), 8);
        x.pass();
        CHECK.due("status()", x.status(), 0);
        x.heard(1, 1);
        CHECK.due("forget()", x.forget(), 8);
        CHECK.due("status() knows nothing of forget()", x.status(), -1);
        CHECK.due("count(4): it can still be undone", x.count(4), 1);
        CHECK.due("count(2)", x.count(2), 0);
        CHECK.due("heard(0, 1)", x.heard(0, 1), 1);
    }

    private static void fits() {
        CHECK.part("30 fits");
        LetterQuay x = Check.quay(13, 12, 5, 51);
        CHECK.due("fits(NONE)", x.fits(-1), 120);
        CHECK.due("fits(119)", x.fits(119), 54321);
        CHECK.due("fits(120)", x.fits(120), -1);
        CHECK.due("fits(-2)", x.fits(-2), -1);
        x.heard(0, 1);
        CHECK.due("fits(NONE)", x.fits(-1), 60);
        CHECK.due("fits(0)", x.fits(0), 13245);
        x.heard(2, 3);
        CHECK.due("fits(NONE) by a beginning", x.fits(-1), 60);
        x.heard(2, 0);
        CHECK.due("fits(NONE): 3 ahead of 2, 5 ahead of 1", x.fits(-1), 30);
        x.stroke(0, 1, 2);
        CHECK.due("fits(NONE): ALIKE ones are not AHEAD", x.fits(-1), 0);
        CHECK.due("fits(0)", x.fits(0), -1);
        x.forget();
        x.heard(3, 2);
        CHECK.due("fits(NONE) against a beginning", x.fits(-1), 0);
        x.forget();
        x.heard(0, 2);
        x.heard(2, 0);
        CHECK.due("fits(NONE) of both ways", x.fits(-1), 0);
        x.forget();
        x.heard(2, 0);
        CHECK.due("fits(0) knows nothing of the ALPHABET", x.fits(0), 23451);
        x.decree(0);
        CHECK.due("fits(0) knows nothing of the ALPHABET", x.fits(0), 23451);
        x.stroke(2, 0, 1);
        x.stroke(0, 0, 3);
        CHECK.due("fits(NONE) by the NAMES as they are", x.fits(0), 12345);
    }

    private static void ask() {
        CHECK.part("31 ask");
        CHECK.due("ask(0) of nobody", new LetterQuay().ask(0), -1);
        CHECK.due("ask(0) of one", Check.quay(1).ask(0), -1);
        CHECK.due("ask(0) of ALIKE ones", Check.quay(1, 1).ask(0), -1);
        CHECK.due("ask(1) of ALIKE ones", Check.quay(1, 1).ask(1), -1);
        LetterQuay x = Check.quay(1, 1, 12, 2, 3);
        CHECK.due("ask(0): 0, 1 are ALIKE, 0, 2 are sure", x.ask(0), 3);
        CHECK.due("ask(1)", x.ask(1), 60);
        CHECK.due("ask(2)", x.ask(2), -1);
        CHECK.due("ask(-1)", x.ask(-1), -1);
        x.heard(0, 3);
        CHECK.due("ask(0): 1 ahead of 2", x.ask(0), 4);
        CHECK.due("ask(1): 1 ahead of 3, 40 to 20", x.ask(1), 40);
        x.heard(4, 3);
        CHECK.due("ask(0): 1 or 3", x.ask(0), 4);
        CHECK.due("ask(1)", x.ask(1), 20);
        x.heard(0, 4);
        CHECK.due("ask(0): all is known", x.ask(0), 2);
        CHECK.due("ask(1)", x.ask(1), 20);
        x.heard(4, 0);
        CHECK.due("ask(0): none FITS", x.ask(0), -1);
        CHECK.due("ask(1): none FITS", x.ask(1), -1);
        LetterQuay sure = Check.quay(2, 21);
        CHECK.due("ask(0) of a sure one", sure.ask(0), 1);
        CHECK.due("ask(1) of a sure one", sure.ask(1), 120);
        LetterQuay last = Check.quay(1, 1, 1, 1, 1, 1, 2);
        CHECK.due("ask(0) of the last", last.ask(0), 6);
        last.stroke(0, 0, 2);
        CHECK.due("ask(0) of the first", last.ask(0), 1);
        last.stroke(1, 0, 2);
        last.stroke(2, 0, 2);
        last.stroke(3, 0, 2);
        last.stroke(4, 0, 2);
        last.stroke(5, 0, 2);
        last.stroke(6, 0, 1);
        CHECK.due("ask(0) of 0 and 6", last.ask(0), 6);
    }
}
