/** Promises 1 to 8: a new object, people, what they say on, the alphabet, terms. */
public final class PeopleTest {
    private static final Check CHECK = new Check();

    public static void main(String[] args) {
        newObject();
        person();
        of();
        at();
        asks();
        says();
        alphabet();
        terms();
        CHECK.finish();
    }

    private static void newObject() {
        CHECK.part("1 new object");
        LetterQuay x = new LetterQuay();
        int[] counts = {0, 0, 0, 0, 0, 0, 0, 0, 0, 0, 0, -1, 0, 1, 0};
        for (int what = 0; what < counts.length; what++) {
            CHECK.due("count(" + what + ")", x.count(what), counts[what]);
        }
        CHECK.due("status()", x.status(), 0);
        CHECK.due("alphabet()", x.alphabet(), 12345);
        CHECK.due("fault()", x.fault(), -1);
        CHECK.due("stopped()", x.stopped(), -1);
        CHECK.due("misprints()", x.misprints(), 0);
        CHECK.due("at(0)", x.at(0), -1);
        CHECK.due("drawn(0, 0)", x.drawn(0, 0), -1);
        CHECK.due("NONE", LetterQuay.NONE, -1);
    }

    private static void person() {
        CHECK.part("2 person");
        LetterQuay x = new LetterQuay();
        int[] bad = {0, 6, 10, 16, 60, 106, 1061, 5556, 11111, -1, -11, Integer.MIN_VALUE, Integer.MAX_VALUE};
        for (int name : bad) {
            CHECK.due("person(" + name + ")", x.person(name), -1);
            CHECK.due("status()", x.status(), -1);
        }
        CHECK.due("count(6)", x.count(6), bad.length);
        int[] good = {1, 5, 11, 55, 123, 5555, 1111};
        for (int i = 0; i < good.length; i++) {
            CHECK.due("person(" + good[i] + ")", x.person(good[i]), i);
            CHECK.due("of(i, 0)", x.of(i, 0), good[i]);
            CHECK.due("of(i, 1)", x.of(i, 1), i);
        }
        CHECK.due("status()", x.status(), 0);
        CHECK.due("person(1)", x.person(1), -5);
        CHECK.due("status()", x.status(), -5);
        CHECK.due("person(0) without room", x.person(0), -1);
        CHECK.due("count(0)", x.count(0), 7);
        CHECK.due("count(9)", x.count(9), 1);
    }

    private static void of() {
        CHECK.part("3 of");
        LetterQuay x = Check.quay(21, 3);
        x.swap(0);
        CHECK.due("of(0, 0)", x.of(0, 0), 21);
        CHECK.due("of(0, 1)", x.of(0, 1), 1);
        CHECK.due("of(1, 1)", x.of(1, 1), 0);
        CHECK.due("of(0, 2)", x.of(0, 2), 1);
        CHECK.due("of(0, 3)", x.of(0, 3), 0);
        CHECK.due("of(0, 4)", x.of(0, 4), -1);
        CHECK.due("of(0, -1)", x.of(0, -1), -1);
        CHECK.due("of(2, 0)", x.of(2, 0), -1);
        CHECK.due("of(-1, 0)", x.of(-1, 0), -1);
        Check.force(x, "steps 10 * place + length; bars if person = 1");
        CHECK.due("of(0, 2)", x.of(0, 2), 12);
        CHECK.due("of(1, 2)", x.of(1, 2), 1);
        CHECK.due("of(0, 3)", x.of(0, 3), 0);
        CHECK.due("of(1, 3)", x.of(1, 3), 1);
        CHECK.due("count(6)", x.count(6) + x.count(7), 0);
    }

    private static void at() {
        CHECK.part("4 at");
        LetterQuay x = Check.quay(21, 3);
        x.swap(0);
        CHECK.due("at(0)", x.at(0), 1);
        CHECK.due("at(1)", x.at(1), 0);
        CHECK.due("at(2)", x.at(2), -1);
        CHECK.due("at(-1)", x.at(-1), -1);
        CHECK.due("at(max)", x.at(Integer.MAX_VALUE), -1);
    }

    private static void asks() {
        CHECK.part("5 asks");
        LetterQuay x = Check.quay(21);
        CHECK.due("asks(0, 1, 3)", x.asks(0, 1, 3), 1);
        Check.force(x, "strokes 10 * letter + new - at; bars");
        CHECK.due("asks(0, 0, 5) of one who is BARRED", x.asks(0, 0, 5), 25);
        CHECK.due("asks(0, 1, 5)", x.asks(0, 1, 5), 14);
        CHECK.due("asks(0, 1, 1)", x.asks(0, 1, 1), -1);
        CHECK.due("asks(0, 2, 1)", x.asks(0, 2, 1), -1);
        CHECK.due("asks(0, 4, 1)", x.asks(0, 4, 1), -1);
        CHECK.due("asks(0, -1, 1)", x.asks(0, -1, 1), -1);
        CHECK.due("asks(0, 0, 0)", x.asks(0, 0, 0), -1);
        CHECK.due("asks(0, 0, 6)", x.asks(0, 0, 6), -1);
        CHECK.due("asks(1, 0, 1)", x.asks(1, 0, 1), -1);
        CHECK.due("asks(-1, 0, 1)", x.asks(-1, 0, 1), -1);
        CHECK.due("status()", x.status(), 0);
    }

    private static void says() {
        CHECK.part("6 says");
        LetterQuay x = Check.quay(21, 3);
        CHECK.due("says(1, 5, 2)", x.says(1, 5, 2), 5);
        CHECK.due("says(1, 5, 5)", x.says(1, 5, 5), 2);
        CHECK.due("says(0, 5, 1)", x.says(0, 5, 1), 5);
        CHECK.due("says(2, 1, 1)", x.says(2, 1, 1), -2);
        CHECK.due("status()", x.status(), -2);
        CHECK.due("says(-1, 1, 1)", x.says(-1, 1, 1), -2);
        CHECK.due("says(2, 0, 1)", x.says(2, 0, 1), -1);
        CHECK.due("says(0, 6, 1)", x.says(0, 6, 1), -1);
        CHECK.due("says(0, 1, 0)", x.says(0, 1, 0), -1);
        CHECK.due("says(0, 1, 6)", x.says(0, 1, 6), -1);
        CHECK.due("count(6)", x.count(6), 4);
        CHECK.due("count(7)", x.count(7), 2);
        CHECK.due("whisper(5)", x.whisper(5), 1);
    }

    private static void alphabet() {
        CHECK.part("7 alphabet");
        LetterQuay x = new LetterQuay();
        x.decree(3);
        x.decree(2);
        CHECK.due("alphabet()", x.alphabet(), 12534);
    }

    private static void terms() {
        CHECK.part("8 terms");
        LetterQuay x = new LetterQuay();
        CHECK.due("terms(0, 999)", x.terms(0, 999), 0);
        CHECK.due("terms(0, 0)", x.terms(0, 0), 999);
        CHECK.due("terms(1, 10)", x.terms(1, 10), 1);
        CHECK.due("terms(1, 0)", x.terms(1, 0), 10);
        CHECK.due("terms(2, 9)", x.terms(2, 9), 0);
        CHECK.due("terms(2, 0)", x.terms(2, 0), 9);
        CHECK.due("terms(0, 1000)", x.terms(0, 1000), -1);
        CHECK.due("terms(1, 11)", x.terms(1, 11), -1);
        CHECK.due("terms(2, 10)", x.terms(2, 10), -1);
        CHECK.due("terms(0, -1)", x.terms(0, -1), -1);
        CHECK.due("terms(3, 0)", x.terms(3, 0), -1);
        CHECK.due("terms(-1, 0)", x.terms(-1, 0), -1);
        CHECK.due("count(6)", x.count(6), 6);
    }
}
