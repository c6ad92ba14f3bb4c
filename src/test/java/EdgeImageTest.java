/** Promises 40 to 43 at their edges: a part of its own for each sentence that names one. */
public final class EdgeImageTest {
    private static final Check CHECK = new Check();
    private static final int MIN = Integer.MIN_VALUE;
    private static final int MAX = Integer.MAX_VALUE;

    public static void main(String[] args) {
        imageNumbers();
        backNumbers();
        backToNone();
        emptyImage();
        fullImage();
        allSayingsOfAnImage();
        alphabetOfAnImage();
        heardOfAnImage();
        imagesAreApart();
        imagesStay();
        keptNot();
        nothingToUndo();
        countNone();
        countEach();
        countRefused();
        countRefusedIsNotKept();
        countUndone();
        noneIsNotRefused();
        statusAheadOfAny();
        statusOfTheLatest();
        statusOfOthers();
        CHECK.finish();
    }

    private static void imageNumbers() {
        CHECK.sentence(40, "IMAGE k is kept: 0; -1.");
        LetterQuay x = Check.quay(1);
        for (int bad : new int[] {-1, 2, MIN, MAX}) {
            CHECK.due("image(" + bad + ")", x.image(bad), -1);
            CHECK.due("status()", x.status(), -1);
        }
        CHECK.due("image(0)", x.image(0), 0);
        CHECK.due("image(1)", x.image(1), 0);
        CHECK.due("status()", x.status(), 0);
        CHECK.refusals(x, 4, 0, 0, 0, 0);
    }

    private static void backNumbers() {
        CHECK.sentence(41, "BACK to IMAGE k: 0. -1; -2 it was not kept.");
        LetterQuay x = Check.quay(1);
        for (int bad : new int[] {-1, 2, MIN, MAX}) {
            CHECK.due("back(" + bad + "): -1 comes ahead of -2", x.back(bad), -1);
        }
        CHECK.refusals(x, 4, 0, 0, 0, 0);
    }

    private static void backToNone() {
        CHECK.sentence(41, "-2 it was not kept");
        LetterQuay x = Check.quay(1);
        CHECK.due("back(0)", x.back(0), -2);
        CHECK.due("status()", x.status(), -2);
        x.image(0);
        CHECK.due("back(1): the other one", x.back(1), -2);
        CHECK.due("back(0)", x.back(0), 0);
        x.image(3);
        CHECK.due("back(1) behind a REFUSED image()", x.back(1), -2);
        CHECK.due("count(0)", x.count(0), 1);
        CHECK.refusals(x, 1, 3, 0, 0, 0);
    }

    private static void emptyImage() {
        CHECK.sentence(0, "BACK to one all that it keeps is as it was then (IMAGES stay).");
        LetterQuay x = new LetterQuay();
        x.image(1);
        fill(x);
        CHECK.due("back(1)", x.back(1), 0);
        int[] counts = {0, 0, 0, 0, 0};
        for (int what = 0; what < counts.length; what++) {
            CHECK.due("count(" + what + ")", x.count(what), counts[what]);
        }
        CHECK.due("count(11)", x.count(11), -1);
        int[] terms = {0, 1, 0};
        for (int what = 0; what < 3; what++) {
            CHECK.due("count(12 + " + what + ")", x.count(12 + what), terms[what]);
        }
        CHECK.due("alphabet()", x.alphabet(), 12345);
        CHECK.due("of(0, 0)", x.of(0, 0), -1);
        CHECK.due("at(0)", x.at(0), -1);
        CHECK.due("whisper(1)", x.whisper(1), 1);
        CHECK.due("person(5)", x.person(5), 0);
        CHECK.due("says of the new one", x.says(0, 1, 1), 1);
        CHECK.due("force(0)", x.force(0), -2);
    }

    private static void fill(LetterQuay x) {
        for (int person = 0; person < 7; person++) {
            x.person(5 - person % 5);
            x.says(person, 1, 2);
        }
        for (int n = 0; n < 8; n++) {
            x.heard(n % 7, (n + 1) % 7);
        }
        for (int law = 0; law < 6; law++) {
            Check.law(x, "steps " + (10 + law));
        }
        x.force(5);
        x.terms(0, 999);
        x.terms(1, 10);
        x.terms(2, 9);
        x.swap(5);
        x.decree(3);
    }

    private static void fullImage() {
        CHECK.sentence(0, "BACK to one all that it keeps is as it was then");
        LetterQuay x = new LetterQuay();
        x.image(1);
        fill(x);
        x.image(0);
        x.back(1);
        x.back(0);
        int[] counts = {7, 4, 8, 6, 0};
        for (int what = 0; what < counts.length; what++) {
            CHECK.due("count(" + what + ")", x.count(what), counts[what]);
        }
        int[] rest = {5, 999, 10, 9};
        for (int what = 0; what < rest.length; what++) {
            CHECK.due("count(11 + " + what + ")", x.count(11 + what), rest[what]);
        }
        CHECK.due("alphabet()", x.alphabet(), 12354);
        CHECK.due("at(5)", x.at(5), 6);
        CHECK.due("of(6, 1)", x.of(6, 1), 5);
        CHECK.due("of(6, 0)", x.of(6, 0), 4);
        CHECK.due("of(6, 2)", x.of(6, 2), 15);
        CHECK.due("says(6, 1, 1)", x.says(6, 1, 1), 2);
        CHECK.due("person(1)", x.person(1), -5);
        CHECK.due("heard(0, 1)", x.heard(0, 1), -5);
        CHECK.due("law()", Check.law(x, "bars"), -5);
        CHECK.due("pass()", x.pass(), -3);
    }

    private static void allSayingsOfAnImage() {
        CHECK.sentence(0, "BACK to one all that it keeps is as it was then");
        LetterQuay x = Check.quay(1, 1, 1, 1, 1, 1, 1);
        sayAll(x, 1);
        x.image(0);
        sayAll(x, 3);
        x.back(0);
        for (int person = 0; person < 7; person++) {
            for (int letter = 1; letter <= 5; letter++) {
                CHECK.due("says(" + person + ", " + letter + ", 1)", x.says(person, letter, 1), (person + letter + 1) % 5 + 1);
            }
        }
    }

    private static void sayAll(LetterQuay x, int by) {
        for (int person = 0; person < 7; person++) {
            for (int letter = 1; letter <= 5; letter++) {
                x.says(person, letter, (person + letter + by) % 5 + 1);
            }
        }
    }

    private static void alphabetOfAnImage() {
        CHECK.sentence(0, "BACK to one all that it keeps is as it was then");
        LetterQuay x = Check.quay(1, 2, 3, 4, 5);
        x.image(0);
        Check.turnAbout(x);
        x.image(1);
        for (int k = 0; k < 2; k++) {
            x.back(k);
            CHECK.due("alphabet()", x.alphabet(), k == 0 ? 12345 : 54321);
            for (int one = 0; one < 4; one++) {
                CHECK.due("ahead(" + one + ", next) by " + x.alphabet(), x.ahead(one, one + 1), k + 1);
            }
            CHECK.due("breaks(NONE)", x.breaks(-1), 4 * k);
        }
    }

    private static void heardOfAnImage() {
        CHECK.sentence(0, "BACK to one all that it keeps is as it was then");
        LetterQuay x = Check.quay(1, 2, 3, 4, 5);
        for (int n = 0; n < 4; n++) {
            x.heard(n, n + 1);
        }
        x.image(0);
        x.forget();
        for (int n = 0; n < 4; n++) {
            x.heard(n + 1, n);
        }
        x.image(1);
        for (int k = 0; k < 2; k++) {
            x.back(k);
            CHECK.due("fits(NONE)", x.fits(-1), 1);
            CHECK.due("fits(0)", x.fits(0), k == 0 ? 12345 : 54321);
        }
    }

    private static void imagesAreApart() {
        CHECK.sentence(0, "IMAGES 0, 1 keep all but");
        LetterQuay x = new LetterQuay();
        x.person(1);
        x.image(0);
        x.person(2);
        x.image(1);
        x.person(3);
        x.back(0);
        CHECK.due("IMAGE 0", x.count(0), 1);
        x.back(1);
        CHECK.due("IMAGE 1", x.count(0), 2);
        x.image(0);
        x.back(0);
        CHECK.due("IMAGE 0 anew", x.count(0), 2);
    }

    private static void imagesStay() {
        CHECK.sentence(0, "(IMAGES stay)");
        LetterQuay x = Check.quay(12, 3);
        x.image(0);
        for (int n = 0; n < 3; n++) {
            x.stroke(0, 1, 5);
            x.swap(0);
            x.decree(0);
            x.pass();
            x.says(1, 1, 4);
            x.heard(0, 1);
            CHECK.due("back(0)", x.back(0), 0);
            CHECK.due("of(0, 0)", x.of(0, 0), 12);
            CHECK.due("at(0)", x.at(0), 0);
            CHECK.due("alphabet()", x.alphabet(), 12345);
            CHECK.due("count(12)", x.count(12), 0);
            CHECK.due("whisper(1)", x.whisper(1), 1);
            CHECK.due("count(2)", x.count(2), 0);
        }
    }

    private static void keptNot() {
        CHECK.sentence(0, "keep all but the TAPE, FAULT, MISPRINTS, where ORDERS stopped, what can be undone (nothing, behind back()), the latest WEEKS");
        LetterQuay x = Check.quay(1, 2);
        x.image(0);
        Check.put(x, new byte[] {6, 6, 6, 6, 6});
        x.row();
        Check.orders(x, "pass; swap 1");
        Check.law(x, "bars x");
        x.weeks(0, 60);
        int name = x.drawn(1, 0);
        x.feed(0x62617273, 0, 0, 0, 0);
        x.end(4);
        x.back(0);
        CHECK.due("misprints()", x.misprints(), 2);
        CHECK.due("stopped()", x.stopped(), 1);
        CHECK.due("fault()", x.fault(), 5);
        CHECK.due("drawn(1, 0)", x.drawn(1, 0), name);
        CHECK.due("count(5)", x.count(5), 4);
        CHECK.due("the TAPE's bytes stay, too", x.law(), 0);
    }

    private static void nothingToUndo() {
        CHECK.sentence(0, "what can be undone (nothing, behind back())");
        LetterQuay x = Check.quay(1, 2);
        x.swap(0);
        x.image(0);
        CHECK.due("count(4) behind image()", x.count(4), 1);
        x.pass();
        x.back(0);
        CHECK.due("count(4)", x.count(4), 0);
        CHECK.due("undo()", x.undo(), -3);
        CHECK.due("at(0)", x.at(0), 1);
        x.pass();
        CHECK.due("undo() of what came then", x.undo(), 3);
        x.pass();
        x.back(1);
        CHECK.due("a REFUSED back() leaves it", x.undo(), 3);
    }

    private static void countNone() {
        CHECK.sentence(42, "NONE for others.");
        LetterQuay x = Check.quay(1);
        for (int bad : new int[] {-1, 15, 16, MIN, MAX}) {
            CHECK.due("count(" + bad + ")", x.count(bad), -1);
        }
        CHECK.due("count(0)", x.count(0), 1);
        CHECK.due("count(14)", x.count(14), 0);
        CHECK.refusals(x, 0, 0, 0, 0, 0);
    }

    private static void countEach() {
        CHECK.sentence(42, "0 PEOPLE, 1 BREAKS, 2 HEARD, 3 LAWS, 4 how many can be undone");
        CHECK.sentence(42, "11 the LAW in FORCE, 12 .. 14 TERMS 0 .. 2.");
        LetterQuay x = Check.quay(2, 1, 3, 3);
        x.terms(0, 20);
        x.terms(1, 6);
        x.terms(2, 7);
        x.heard(0, 1);
        x.heard(0, 1);
        Check.law(x, "bars if 1=2");
        Check.law(x, "bars if 1=2");
        Check.law(x, "bars if 1=2");
        x.force(2);
        x.stroke(3, 0, 5);
        x.pass();
        x.pass();
        x.pass();
        x.pass();
        x.feed(0, 0, 0, 0, 0);
        int[] due = {4, 1, 2, 3, 5, 20, 0, 0, 0, 0, 0, 2, 24, 6, 7};
        for (int what = 0; what < due.length; what++) {
            CHECK.due("count(" + what + ")", x.count(what), due[what]);
        }
    }

    private static void countRefused() {
        CHECK.sentence(42, "6 .. 10 how many calls were REFUSED by -1, -2, -3, -5, -6");
        LetterQuay x = Check.quay(1, 2, 3, 4, 5, 1, 2);
        x.decree(4);
        for (int n = 0; n < 2; n++) {
            x.swap(6);
        }
        for (int n = 0; n < 3; n++) {
            x.undo();
        }
        for (int n = 0; n < 4; n++) {
            x.person(1);
        }
        for (int n = 0; n < 5; n++) {
            x.row();
        }
        CHECK.refusals(x, 1, 2, 3, 4, 5);
        CHECK.due("count(11)", x.count(11), -1);
    }

    private static void countRefusedIsNotKept() {
        CHECK.sentence(42, "(IMAGES do not keep that)");
        LetterQuay x = Check.quay(1);
        x.decree(4);
        x.image(0);
        x.decree(4);
        x.swap(3);
        x.undo();
        x.row();
        x.back(0);
        CHECK.refusals(x, 2, 1, 1, 0, 1);
    }

    private static void countUndone() {
        CHECK.sentence(42, "4 how many can be undone, 5 bytes of the TAPE");
        LetterQuay x = Check.quay(1);
        for (int n = 1; n <= 17; n++) {
            x.pass();
            CHECK.due("count(4)", x.count(4), Math.min(n, 16));
        }
        x.undo();
        CHECK.due("count(4)", x.count(4), 15);
        for (int n = 1; n <= 20; n++) {
            x.feed(0, 0, 0, 0, 0);
            CHECK.due("count(5)", x.count(5), 20 * n);
        }
        x.end(399);
        CHECK.due("count(5)", x.count(5), 399);
    }

    private static void noneIsNotRefused() {
        CHECK.sentence(42, "how many calls were REFUSED");
        LetterQuay x = Check.quay(1, 2);
        x.terms(0, 1000);
        x.of(9, 9);
        x.at(9);
        x.asks(9, 9, 9);
        x.end(9);
        x.ahead(9, 9);
        x.breaks(9);
        x.out(9);
        x.right(999);
        x.fits(999);
        x.ask(9);
        x.mend(9);
        x.whisper(9);
        x.from(9);
        x.clearest(9);
        x.comes(99, 999);
        x.compare(9);
        x.drawn(9, 9);
        x.count(99);
        CHECK.refusals(x, 1, 0, 0, 0, 0);
        CHECK.due("status() is that of terms()", x.status(), -1);
    }

    private static void statusAheadOfAny() {
        CHECK.sentence(43, "0 if it was not, or ahead of any");
        LetterQuay x = new LetterQuay();
        CHECK.due("status()", x.status(), 0);
        x.of(0, 0);
        x.feed(0, 0, 0, 0, 0);
        x.end(99);
        x.forget();
        CHECK.due("status() behind calls that it does not tell of", x.status(), 0);
        x.undo();
        CHECK.due("status()", x.status(), -3);
        CHECK.due("status() again", x.status(), -3);
    }

    private static int call(LetterQuay x, int which, boolean good) {
        switch (which) {
            case 0: return x.person(good ? 1 : 0);
            case 1: return x.says(0, good ? 1 : 0, 1);
            case 2: return x.terms(2, good ? 1 : 10);
            case 3: Check.put(x, good ? "x" : ""); return x.row();
            case 4: return Check.law(x, good ? "bars if 1=2" : "bar");
            case 5: return Check.orders(x, good ? "decree 0" : "swap 9");
            case 6: return x.force(good ? 0 : 5);
            case 7: return x.stroke(0, 0, good ? x.of(0, 0) % 5 + 1 : 0);
            case 8: return x.swap(good ? 0 : 6);
            case 9: return x.decree(good ? 0 : 4);
            case 10: x.terms(0, good ? 0 : 999); return x.pass();
            case 11: x.terms(0, 0); return (good ? x.pass() : 0) >= 0 ? x.undo() : -99;
            case 12: return x.heard(0, good ? 1 : 0);
            case 13: return x.weeks(0, good ? 1 : 0);
            case 14: return x.image(good ? 0 : 2);
            default: return x.back(good ? 0 : 2);
        }
    }

    private static void statusOfTheLatest() {
        CHECK.sentence(43, "What the latest call of person, says, terms, row, law, orders, force, stroke, swap, decree, pass, undo, heard, weeks, image, back was REFUSED by");
        int[] by = {-1, -1, -1, -6, -6, -3, -2, -1, -2, -1, -3, -3, -1, -1, -1, -1};
        LetterQuay x = Check.quay(1, 2);
        Check.law(x, "bars if 1=2");
        x.image(0);
        for (int which = 0; which < by.length; which++) {
            CHECK.due("a REFUSED call " + which, call(x, which, false), by[which]);
            CHECK.due("status()", x.status(), by[which]);
            CHECK.so("a good call " + which, call(x, which, true) >= -1);
            CHECK.due("status() of a good call " + which, x.status(), 0);
        }
    }

    private static void statusOfOthers() {
        CHECK.sentence(43, "What the latest call of person, says, terms, row, law, orders, force, stroke, swap, decree, pass, undo, heard, weeks, image, back");
        LetterQuay x = Check.quay(1, 2);
        x.swap(9);
        x.feed(0, 0, 0, 0, 0);
        x.end(0);
        x.forget();
        x.at(0);
        x.ahead(0, 1);
        x.mend(0);
        x.ask(0);
        x.whisper(1);
        x.clearest(-1);
        x.comes(1, 1);
        x.compare(-1);
        x.drawn(0, 0);
        x.count(0);
        x.fault();
        x.stopped();
        x.misprints();
        x.alphabet();
        CHECK.due("status() behind good calls that it does not tell of", x.status(), -2);
    }
}
