/** Terms I and promises 1 to 8 at their edges: a part of its own for each sentence that names one. */
public final class EdgePeopleTest {
    private static final Check CHECK = new Check();
    private static final int MIN = Integer.MIN_VALUE;
    private static final int MAX = Integer.MAX_VALUE;
    private static final int[] FULL = {1, 2, 3, 4, 5, 11, 22};

    public static void main(String[] args) {
        none();
        noLetters();
        firstAndLastLetter();
        names();
        sevenPeople();
        saysAtFirst();
        behindTheLast();
        alphabetAtFirst();
        termsAndTheirEdges();
        termsAtFirst();
        noSuchTerm();
        aheadByTheFirstDifference();
        aheadByEachAlphabet();
        aheadByBeginning();
        alike();
        emptyQuay();
        personRefused();
        ofNone();
        atNone();
        asksNone();
        saysRefused();
        CHECK.finish();
    }

    private static void none() {
        CHECK.sentence(0, "The constants: `NONE = -1`: There is none.");
        CHECK.due("NONE", LetterQuay.NONE, -1);
        CHECK.due("at(0) of nobody", new LetterQuay().at(0), LetterQuay.NONE);
    }

    private static void noLetters() {
        CHECK.sentence(0, "LETTERS 1 .. 5.");
        for (int bad : new int[] {0, 6, -1, MIN, MAX}) {
            LetterQuay x = Check.quay(12, 3);
            CHECK.due("says(0, " + bad + ", 1)", x.says(0, bad, 1), -1);
            CHECK.due("says(0, 1, " + bad + ")", x.says(0, 1, bad), -1);
            CHECK.due("stroke(0, 0, " + bad + ")", x.stroke(0, 0, bad), -1);
            CHECK.due("asks(0, 0, " + bad + ")", x.asks(0, 0, bad), -1);
            CHECK.due("whisper(" + bad + ")", x.whisper(bad), -1);
            CHECK.due("from(" + bad + ")", x.from(bad), -1);
            CHECK.refusals(x, 3, 0, 0, 0, 0);
        }
    }

    private static void firstAndLastLetter() {
        CHECK.sentence(0, "LETTERS 1 .. 5.");
        LetterQuay x = Check.quay(32, 3);
        for (int good : new int[] {1, 5}) {
            CHECK.due("says(0, " + good + ", " + good + ")", x.says(0, good, good), good);
            CHECK.due("asks(0, 0, " + good + ")", x.asks(0, 0, good), 1);
            CHECK.due("stroke(0, 0, " + good + ")", x.stroke(0, 0, good), 1);
            CHECK.due("whisper(" + good + ")", x.whisper(good), good);
            CHECK.due("from(" + good + ")", x.from(good), 1 << (good - 1));
        }
        CHECK.refusals(x, 0, 0, 0, 0, 0);
    }

    /** Every number of up to five digits: 5 + 25 + 125 + 625 of them are NAMES. */
    private static void names() {
        CHECK.sentence(0, "A NAME: one to four LETTERS, as a number with these digits, the first one the highest.");
        int good = 0;
        int wrong = 0;
        LetterQuay x = new LetterQuay();
        for (int name = -6000; name < 100000; name++) {
            // A new object in time, as it may have 512 calls.
            if (name % 100 == 0) {
                x = new LetterQuay();
                x.image(0);
            }
            x.back(0);
            boolean fits = String.valueOf(name).matches("[1-5]{1,4}");
            good += fits ? 1 : 0;
            int answer = x.person(name);
            wrong += answer == (fits ? 0 : -1) && x.of(0, 0) == (fits ? name : -1) ? 0 : 1;
        }
        CHECK.due("how many NAMES there are", good, 780);
        CHECK.due("how many numbers were taken wrongly", wrong, 0);
        for (int name : new int[] {MIN, MAX, 111111, 1111111111, 65537, -1111}) {
            CHECK.due("person(" + name + ")", new LetterQuay().person(name), -1);
        }
    }

    private static void sevenPeople() {
        CHECK.sentence(0, "PEOPLE 0 .. 6 (7 at most): a NAME");
        LetterQuay x = new LetterQuay();
        for (int n = 0; n < 7; n++) {
            CHECK.due("person(1)", x.person(1), n);
        }
        CHECK.due("an eighth", x.person(1), -5);
        CHECK.due("count(0)", x.count(0), 7);
        CHECK.due("of(6, 0)", x.of(6, 0), 1);
        CHECK.due("of(7, 0)", x.of(7, 0), -1);
        CHECK.due("at(6)", x.at(6), 6);
        CHECK.due("at(7)", x.at(7), -1);
    }

    private static void saysAtFirst() {
        CHECK.sentence(0, "what each SAYS on of each LETTER it hears (that LETTER, at first)");
        LetterQuay x = Check.quay(FULL);
        for (int person = 0; person < 7; person++) {
            for (int letter = 1; letter <= 5; letter++) {
                CHECK.due("says(" + person + ", " + letter + ", 1)", x.says(person, letter, 1), letter);
            }
        }
        LetterQuay again = new LetterQuay();
        again.image(0);
        again.person(1);
        again.says(0, 2, 4);
        again.back(0);
        again.person(1);
        CHECK.due("of one who came anew behind back()", again.says(0, 2, 2), 2);
    }

    private static void behindTheLast() {
        CHECK.sentence(0, "A ROW: all PEOPLE, one at each PLACE 0, 1 .. (each new one behind the last).");
        LetterQuay x = Check.quay(1, 2);
        x.swap(0);
        x.person(3);
        Check.put(x, new byte[] {4, 0, 0, 0});
        x.row();
        int[] row = {1, 0, 2, 3};
        for (int place = 0; place < row.length; place++) {
            CHECK.due("at(" + place + ")", x.at(place), row[place]);
            CHECK.due("of(" + row[place] + ", 1)", x.of(row[place], 1), place);
        }
        CHECK.due("at(4)", x.at(4), -1);
    }

    private static void alphabetAtFirst() {
        CHECK.sentence(0, "The ALPHABET: all five LETTERS in order, as a number with these digits (12345 at first).");
        CHECK.sentence(7, "The ALPHABET.");
        LetterQuay x = new LetterQuay();
        CHECK.due("alphabet()", x.alphabet(), 12345);
        Check.turnAbout(x);
        CHECK.due("alphabet() turned about wholly", x.alphabet(), 54321);
    }

    private static void termsAndTheirEdges() {
        CHECK.sentence(0, "TERMS: 0 DAY 0 .. 999 (0 at first), 1 SLIP 0 .. 10 (1), 2 MOOD 0 .. 9 (0).");
        CHECK.sentence(8, "A TERM: what it was. -1.");
        int[] most = {999, 10, 9};
        for (int what = 0; what < 3; what++) {
            LetterQuay x = new LetterQuay();
            x.terms(what, 0);
            CHECK.due("terms(" + what + ", the most)", x.terms(what, most[what]), 0);
            CHECK.due("count(12 + " + what + ")", x.count(12 + what), most[what]);
            for (int bad : new int[] {most[what] + 1, -1, MIN, MAX}) {
                CHECK.due("terms(" + what + ", " + bad + ")", x.terms(what, bad), -1);
                CHECK.due("status()", x.status(), -1);
                CHECK.due("count(12 + " + what + ") stays", x.count(12 + what), most[what]);
            }
            CHECK.due("terms(" + what + ", 0)", x.terms(what, 0), most[what]);
            CHECK.due("count(12 + " + what + ")", x.count(12 + what), 0);
            CHECK.refusals(x, 4, 0, 0, 0, 0);
        }
    }

    private static void termsAtFirst() {
        CHECK.sentence(0, "0 DAY 0 .. 999 (0 at first), 1 SLIP 0 .. 10 (1), 2 MOOD 0 .. 9 (0)");
        int[] first = {0, 1, 0};
        for (int what = 0; what < 3; what++) {
            CHECK.due("count(12 + " + what + ")", new LetterQuay().count(12 + what), first[what]);
            CHECK.due("terms(" + what + ", 2)", new LetterQuay().terms(what, 2), first[what]);
        }
    }

    private static void noSuchTerm() {
        CHECK.sentence(8, "A TERM: what it was. -1.");
        LetterQuay x = new LetterQuay();
        for (int bad : new int[] {-1, 3, MIN, MAX}) {
            CHECK.due("terms(" + bad + ", 0)", x.terms(bad, 0), -1);
        }
        CHECK.refusals(x, 4, 0, 0, 0, 0);
    }

    private static void aheadByTheFirstDifference() {
        CHECK.sentence(0, "AHEAD: of two NAMES that with the earlier LETTER by the ALPHABET where they first differ");
        int[][] pairs = {{1, 2}, {1555, 2}, {1111, 1112}, {1211, 1122}, {54, 5511}, {1115, 112}};
        int[] due = {1, 1, 1, 2, 1, 1};
        for (int i = 0; i < pairs.length; i++) {
            LetterQuay x = Check.quay(pairs[i]);
            CHECK.due("ahead of " + pairs[i][0] + " and " + pairs[i][1], x.ahead(0, 1), due[i]);
            CHECK.due("ahead of " + pairs[i][1] + " and " + pairs[i][0], x.ahead(1, 0), 3 - due[i]);
        }
        LetterQuay turned = Check.quay(1, 2, 4, 5);
        turned.decree(0);
        turned.decree(3);
        CHECK.due("1, 2 by 21354", turned.ahead(0, 1), 2);
        CHECK.due("4, 5 by 21354", turned.ahead(2, 3), 2);
    }

    private static void aheadByEachAlphabet() {
        CHECK.sentence(0, "by the ALPHABET where they first differ");
        for (int i = 0; i < 120; i++) {
            LetterQuay x = turned(new LetterQuay().right(i));
            String letters = String.valueOf(x.alphabet());
            int wrong = 0;
            for (int pair = 0; pair < 25; pair++) {
                int d = letters.indexOf('1' + pair / 5) - letters.indexOf('1' + pair % 5);
                wrong += x.ahead(pair / 5, pair % 5) == (d < 0 ? 1 : d > 0 ? 2 : 0) ? 0 : 1;
            }
            CHECK.due("pairs that are wrong by " + letters, wrong, 0);
        }
    }

    /** By decrees: each LETTER in turn comes ahead to its place. */
    private static LetterQuay turned(int alphabet) {
        LetterQuay x = Check.quay(1, 2, 3, 4, 5);
        String due = String.valueOf(alphabet);
        for (int place = 0; place < 5; place++) {
            for (int k = String.valueOf(x.alphabet()).indexOf(due.charAt(place)); k > place; k--) {
                x.decree(k - 1);
            }
        }
        CHECK.due("alphabet()", x.alphabet(), alphabet);
        return x;
    }

    private static void aheadByBeginning() {
        CHECK.sentence(0, "or which is the other one's beginning");
        LetterQuay x = Check.quay(5, 51, 511, 5111, 1, 15);
        for (int one = 0; one < 3; one++) {
            CHECK.due("ahead(" + one + ", next)", x.ahead(one, one + 1), 1);
            CHECK.due("ahead(next, " + one + ")", x.ahead(one + 1, one), 2);
        }
        x.decree(0);
        CHECK.due("whatever the ALPHABET", x.ahead(4, 5), 1);
        CHECK.due("no beginning, though its end", x.ahead(0, 5), 2);
    }

    private static void alike() {
        CHECK.sentence(0, "like NAMES are ALIKE.");
        LetterQuay x = Check.quay(5432, 5432, 543);
        CHECK.due("ahead(0, 1)", x.ahead(0, 1), 0);
        CHECK.due("ahead(1, 0)", x.ahead(1, 0), 0);
        CHECK.due("ahead(0, 2)", x.ahead(0, 2), 2);
    }

    private static void emptyQuay() {
        CHECK.sentence(1, "An empty quay.");
        LetterQuay x = new LetterQuay();
        int[] counts = {0, 0, 0, 0, 0, 0, 0, 0, 0, 0, 0, -1, 0, 1, 0};
        for (int what = 0; what < counts.length; what++) {
            CHECK.due("count(" + what + ")", x.count(what), counts[what]);
        }
        int[] zero = {x.misprints(), x.breaks(-1), x.swaps(), x.out(0), x.out(1), x.mend(0), x.compare(-1), x.status(), x.forget()};
        for (int answer : zero) {
            CHECK.due("a 0 of an empty quay", answer, 0);
        }
        int[] none = {x.at(0), x.of(0, 0), x.asks(0, 0, 1), x.fault(), x.stopped(), x.ahead(0, 0), x.breaks(0), x.ask(0),
            x.ask(1), x.mend(1), x.clearest(0), x.compare(0), x.drawn(0, 0), x.drawn(0, 1)};
        for (int answer : none) {
            CHECK.due("a NONE of an empty quay", answer, -1);
        }
        CHECK.due("right(NONE)", x.right(-1), 120);
        CHECK.due("fits(NONE)", x.fits(-1), 120);
        CHECK.due("clearest(NONE)", x.clearest(-1), 5);
        CHECK.due("back(0)", x.back(0), -2);
        CHECK.due("back(1)", x.back(1), -2);
        CHECK.due("undo()", x.undo(), -3);
        CHECK.due("weeks(0, 1)", x.weeks(0, 1), -3);
        CHECK.due("another object knows nothing of it", new LetterQuay().count(8), 0);
    }

    private static void personRefused() {
        CHECK.sentence(2, "A PERSON with a NAME: its number. -1; -5.");
        LetterQuay x = Check.quay(FULL);
        CHECK.due("person(0): no NAME comes ahead of no room", x.person(0), -1);
        CHECK.due("person(6)", x.person(6), -1);
        CHECK.due("person(5)", x.person(5), -5);
        CHECK.due("status()", x.status(), -5);
        CHECK.refusals(x, 2, 0, 0, 1, 0);
        for (int person = 0; person < 7; person++) {
            CHECK.due("of(" + person + ", 0) stays", x.of(person, 0), FULL[person]);
        }
    }

    private static void ofNone() {
        CHECK.sentence(3, "Of a PERSON the NAME (what 0), the PLACE (1), what a STEP costs (2), whether BARRED (3: 1, 0). NONE.");
        LetterQuay x = Check.quay(FULL);
        for (int what : new int[] {-1, 4, MIN, MAX}) {
            CHECK.due("of(0, " + what + ")", x.of(0, what), -1);
        }
        for (int person : new int[] {-1, 7, MIN, MAX}) {
            for (int what = 0; what < 4; what++) {
                CHECK.due("of(" + person + ", " + what + ")", x.of(person, what), -1);
            }
        }
        int[] last = {22, 6, 1, 0};
        for (int what = 0; what < 4; what++) {
            CHECK.due("of(6, " + what + ")", x.of(6, what), last[what]);
        }
        CHECK.refusals(x, 0, 0, 0, 0, 0);
    }

    private static void atNone() {
        CHECK.sentence(4, "Who is at a PLACE. NONE.");
        LetterQuay x = Check.quay(1, 2);
        for (int place : new int[] {-1, 2, MIN, MAX}) {
            CHECK.due("at(" + place + ")", x.at(place), -1);
        }
        CHECK.due("at(0)", x.at(0), 0);
        CHECK.due("at(1)", x.at(1), 1);
        CHECK.refusals(x, 0, 0, 0, 0, 0);
    }

    private static void asksNone() {
        CHECK.sentence(5, "What a STROKE costs that makes the LETTER at k 0 .. 3 of a PERSON's NAME another one. NONE (not so many LETTERS; it is that one).");
        LetterQuay x = Check.quay(5, 54, 543, 5432);
        for (int person = 0; person < 4; person++) {
            for (int k = -1; k <= 4; k++) {
                for (int letter = 0; letter <= 6; letter++) {
                    boolean there = k >= 0 && k <= person && letter >= 1 && letter <= 5 && letter != 5 - k;
                    CHECK.due("asks(" + person + ", " + k + ", " + letter + ")", x.asks(person, k, letter), there ? 1 : -1);
                }
            }
        }
        CHECK.due("asks(4, 0, 1)", x.asks(4, 0, 1), -1);
        CHECK.due("asks(-1, 0, 1)", x.asks(-1, 0, 1), -1);
        CHECK.due("asks(0, min, 1)", x.asks(0, MIN, 1), -1);
        CHECK.due("asks(0, max, 1)", x.asks(0, MAX, 1), -1);
        CHECK.refusals(x, 0, 0, 0, 0, 0);
    }

    private static void saysRefused() {
        CHECK.sentence(6, "What a PERSON SAYS on who hears a LETTER: what it was. -1; -2.");
        LetterQuay x = Check.quay(1, 2);
        CHECK.due("says(1, 5, 1)", x.says(1, 5, 1), 5);
        CHECK.due("says(1, 1, 5)", x.says(1, 1, 5), 1);
        for (int person : new int[] {-1, 2, MIN, MAX}) {
            CHECK.due("says(" + person + ", 1, 1)", x.says(person, 1, 1), -2);
            CHECK.due("says(" + person + ", 6, 1): -1 comes ahead of -2", x.says(person, 6, 1), -1);
            CHECK.due("says(" + person + ", 1, 0): -1 comes ahead of -2", x.says(person, 1, 0), -1);
        }
        CHECK.refusals(x, 8, 4, 0, 0, 0);
        CHECK.due("whisper(5) stays", x.whisper(5), 1);
        CHECK.due("whisper(1) stays", x.whisper(1), 5);
        CHECK.due("says(1, 5, 5)", x.says(1, 5, 5), 1);
    }
}
