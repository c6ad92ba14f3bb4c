/** Promises 40 to 43: images, counts, status. */
public final class ImageTest {
    private static final Check CHECK = new Check();

    public static void main(String[] args) {
        keeps();
        keepsNot();
        lawsOfImages();
        counts();
        status();
        CHECK.finish();
    }

    private static void keeps() {
        CHECK.part("40 image, 41 back");
        LetterQuay x = Check.quay(21, 3);
        CHECK.due("image(2)", x.image(2), -1);
        CHECK.due("image(-1)", x.image(-1), -1);
        CHECK.due("back(2)", x.back(2), -1);
        CHECK.due("back(-1)", x.back(-1), -1);
        CHECK.due("back(0)", x.back(0), -2);
        CHECK.due("back(1)", x.back(1), -2);
        Check.law(x, "steps 5");
        x.force(0);
        x.heard(0, 1);
        x.says(0, 1, 2);
        CHECK.due("image(0)", x.image(0), 0);
        x.person(4);
        x.stroke(0, 0, 1);
        x.swap(0);
        x.decree(1);
        x.pass();
        x.terms(1, 7);
        x.terms(2, 3);
        x.heard(1, 0);
        x.says(0, 1, 3);
        Check.law(x, "steps 6");
        x.force(1);
        CHECK.due("image(1)", x.image(1), 0);
        CHECK.due("back(0)", x.back(0), 0);
        int[] first = {2, 0, 1, 1, 0, 0};
        for (int what = 0; what < first.length; what++) {
            CHECK.due("count(" + what + ")", x.count(what), first[what]);
        }
        CHECK.due("of(0, 0)", x.of(0, 0), 21);
        CHECK.due("of(2, 0)", x.of(2, 0), -1);
        CHECK.due("at(0)", x.at(0), 0);
        CHECK.due("alphabet()", x.alphabet(), 12345);
        CHECK.due("count(12)", x.count(12), 0);
        CHECK.due("count(13)", x.count(13), 1);
        CHECK.due("count(14)", x.count(14), 0);
        CHECK.due("count(11)", x.count(11), 0);
        CHECK.due("of(0, 2)", x.of(0, 2), 5);
        CHECK.due("whisper(1)", x.whisper(1), 2);
        CHECK.due("fits(NONE)", x.fits(-1), 60);
        CHECK.due("fits(0)", x.fits(0), 12345);
        x.forget();
        x.heard(1, 0);
        CHECK.due("fits(0)", x.fits(0), 13245);
        x.back(0);
        CHECK.due("fits(0) by what was HEARD then", x.fits(0), 12345);
        CHECK.due("undo()", x.undo(), -3);
        x.pass();
        CHECK.due("back(1)", x.back(1), 0);
        CHECK.due("of(0, 0)", x.of(0, 0), 11);
        CHECK.due("of(2, 0)", x.of(2, 0), 4);
        CHECK.due("at(0)", x.at(0), 1);
        CHECK.due("alphabet()", x.alphabet(), 13245);
        CHECK.due("count(2)", x.count(2), 2);
        CHECK.due("count(3)", x.count(3), 2);
        CHECK.due("count(12)", x.count(12), 1);
        CHECK.due("count(13)", x.count(13), 7);
        CHECK.due("count(14)", x.count(14), 3);
        CHECK.due("of(0, 2)", x.of(0, 2), 6);
        CHECK.due("whisper(1)", x.whisper(1), 3);
        CHECK.due("back(0) again: IMAGES stay", x.back(0), 0);
        CHECK.due("count(0)", x.count(0), 2);
        CHECK.due("image(1) anew", x.image(1), 0);
        x.person(5);
        x.back(1);
        CHECK.due("count(0)", x.count(0), 2);
    }

    private static void keepsNot() {
        CHECK.part("41 back, what it leaves");
        LetterQuay x = Check.quay(21, 3);
        x.image(0);
        Check.put(x, new byte[] {9, 9, 9, 9, 1});
        x.row();
        Check.law(x, "bars bars");
        Check.orders(x, "pass; swap 9");
        x.weeks(0, 1);
        x.person(0);
        x.feed(1, 2, 3, 4, 5);
        x.back(0);
        CHECK.due("misprints()", x.misprints(), 2);
        CHECK.due("fault()", x.fault(), -1);
        CHECK.due("stopped()", x.stopped(), 1);
        CHECK.due("count(5)", x.count(5), 20);
        CHECK.due("drawn(1, 0)", x.drawn(1, 0), 3);
        CHECK.due("count(6)", x.count(6), 1);
        CHECK.due("count(8)", x.count(8), 1);
        CHECK.due("count(10)", x.count(10), 1);
        CHECK.due("status() is that of back()", x.status(), 0);
        Check.law(x, "bars bars");
        x.back(0);
        CHECK.due("fault()", x.fault(), 5);
    }

    private static void lawsOfImages() {
        CHECK.part("LAWS of IMAGES");
        LetterQuay x = Check.quay(21);
        x.image(0);
        Check.force(x, "steps 5");
        x.image(1);
        x.back(0);
        CHECK.due("count(3)", x.count(3), 0);
        CHECK.due("count(11)", x.count(11), -1);
        CHECK.due("force(0)", x.force(0), -2);
        Check.force(x, "steps 8");
        CHECK.due("of(0, 2)", x.of(0, 2), 8);
        x.back(1);
        CHECK.due("of(0, 2) of the LAW that was", x.of(0, 2), 5);
    }

    private static void counts() {
        CHECK.part("42 count");
        LetterQuay x = Check.quay(21, 2);
        CHECK.due("count(-1)", x.count(-1), -1);
        CHECK.due("count(15)", x.count(15), -1);
        CHECK.due("count(min)", x.count(Integer.MIN_VALUE), -1);
        x.heard(0, 1);
        x.pass();
        x.feed(0, 0, 0, 0, 0);
        x.end(3);
        CHECK.due("count(0)", x.count(0), 2);
        CHECK.due("count(1)", x.count(1), 1);
        CHECK.due("count(2)", x.count(2), 1);
        CHECK.due("count(3)", x.count(3), 0);
        CHECK.due("count(4)", x.count(4), 1);
        CHECK.due("count(5)", x.count(5), 3);
        x.person(0);
        x.swap(5);
        x.swap(5);
        x.stroke(1, 1, 1);
        x.stroke(1, 1, 1);
        x.undo();
        x.undo();
        x.law();
        x.end(0);
        x.row();
        x.orders();
        for (int n = 0; n < 8; n++) {
            x.heard(0, 1);
        }
        CHECK.due("count(6)", x.count(6), 1);
        CHECK.due("count(7)", x.count(7), 2);
        CHECK.due("count(8)", x.count(8), 3);
        CHECK.due("count(9)", x.count(9), 1);
        CHECK.due("count(10)", x.count(10), 3);
        x.breaks(99);
        x.of(9, 9);
        x.end(-1);
        x.drawn(9, 9);
        CHECK.due("count(6): NONE is none REFUSED", x.count(6), 1);
        CHECK.due("count(7): NONE is none REFUSED", x.count(7), 2);
    }

    private static void status() {
        CHECK.part("43 status");
        LetterQuay x = Check.quay(21, 2);
        Runnable[] bad = {() -> x.person(0), () -> x.says(0, 0, 0), () -> x.terms(9, 0), x::row, x::law, x::orders,
            () -> x.force(3), () -> x.stroke(0, 9, 9), () -> x.swap(9), () -> x.decree(9), x::undo,
            () -> x.heard(0, 9), () -> x.weeks(-1, 1), () -> x.image(9), () -> x.back(1)};
        int[] due = {-1, -1, -1, -6, -6, -6, -2, -1, -2, -1, -3, -2, -1, -1, -2};
        Runnable[] good = {() -> x.says(0, 1, 1), () -> x.terms(0, 0), () -> x.force(-1), () -> x.swap(0),
            () -> x.decree(0), x::pass, x::undo, () -> x.heard(0, 1), () -> x.weeks(1, 1), () -> x.image(0),
            () -> x.back(0), () -> x.person(1), () -> x.stroke(0, 0, x.of(0, 0) / 10 % 5 + 1)};
        for (int i = 0; i < bad.length; i++) {
            bad[i].run();
            CHECK.due("status() behind bad call " + i, x.status(), due[i]);
            x.forget();
            x.feed(0, 0, 0, 0, 0);
            x.end(0);
            x.breaks(0);
            CHECK.due("status() behind calls that it does not tell of", x.status(), due[i]);
        }
        for (int i = 0; i < good.length; i++) {
            x.person(0);
            good[i].run();
            CHECK.due("status() behind good call " + i, x.status(), 0);
        }
        x.terms(0, 999);
        x.pass();
        CHECK.due("status() behind pass()", x.status(), -3);
        Check.put(x, "bars");
        x.law();
        CHECK.due("status() behind law()", x.status(), 0);
        x.person(0);
        Check.put(x, "decree 0");
        x.orders();
        CHECK.due("status() behind orders()", x.status(), 0);
        x.person(0);
        Check.put(x, new byte[] {1});
        x.row();
        CHECK.due("status() behind row()", x.status(), 0);
    }
}
