/** LAWS of Terms II and promises 13, 15, 17 at their edges: a part of its own for each sentence that names one. */
public final class EdgeLawTest {
    private static final Check CHECK = new Check();
    private static final int MIN = Integer.MIN_VALUE;
    private static final int MAX = Integer.MAX_VALUE;

    public static void main(String[] args) {
        sixLaws();
        roomAgainBehindBack();
        noRoomAheadOfReading();
        blanksAlone();
        lawEmptiesTheTape();
        faultNoneWithout();
        faultOfTheLatestThatRead();
        noneAtFirst();
        force();
        forceOfNone();
        words();
        strokesAskedOf();
        stepsAndBarsAskedOf();
        placeAndLength();
        strokeCostsWithinBounds();
        stepCostsWithinBounds();
        oneWithout();
        lastThatHolds();
        holdsNotWhenBroken();
        barred();
        CHECK.finish();
    }

    private static void sixLaws() {
        CHECK.sentence(0, "LAWS, 6 at most");
        CHECK.sentence(13, "The TAPE, which is empty then, becomes a LAW: its number.");
        LetterQuay x = Check.quay(1);
        for (int law = 0; law < 6; law++) {
            CHECK.due("law()", Check.law(x, "steps " + (10 + law)), law);
            CHECK.due("count(3)", x.count(3), law + 1);
        }
        CHECK.due("a seventh", Check.law(x, "steps 16"), -5);
        CHECK.due("count(3)", x.count(3), 6);
        for (int law = 0; law < 6; law++) {
            CHECK.due("force(" + law + ")", x.force(law), law - 1);
            CHECK.due("of(0, 2)", x.of(0, 2), 10 + law);
        }
        CHECK.due("force(6)", x.force(6), -2);
    }

    private static void roomAgainBehindBack() {
        CHECK.sentence(0, "BACK to one all that it keeps is as it was then");
        LetterQuay x = Check.quay(1);
        for (int law = 0; law < 5; law++) {
            Check.law(x, "steps 1");
        }
        x.image(0);
        CHECK.due("the sixth", Check.law(x, "steps 2"), 5);
        CHECK.due("a seventh", Check.law(x, "steps 3"), -5);
        x.back(0);
        CHECK.due("force(5)", x.force(5), -2);
        CHECK.due("the sixth anew", Check.law(x, "steps 4"), 5);
        x.force(5);
        CHECK.due("of(0, 2)", x.of(0, 2), 4);
    }

    private static void noRoomAheadOfReading() {
        CHECK.sentence(13, "-5 (ahead of reading it; the TAPE is empty then, too)");
        LetterQuay x = Check.quay(1);
        for (int law = 0; law < 6; law++) {
            Check.law(x, "bars");
        }
        Check.orders(x, "pass if 1");
        CHECK.due("fault()", x.fault(), 9);
        for (String text : new String[] {"bars", "bars bars", "  ", ""}) {
            CHECK.due("law() of '" + text + "'", Check.law(x, text), -5);
            CHECK.due("status()", x.status(), -5);
            CHECK.due("count(5)", x.count(5), 0);
            CHECK.due("fault() stays", x.fault(), 9);
        }
        CHECK.refusals(x, 0, 0, 0, 4, 1);
    }

    private static void blanksAlone() {
        CHECK.sentence(13, "-6 (blanks alone: FAULT at the end)");
        CHECK.sentence(14, "-6 (as for law())");
        for (int length : new int[] {0, 1, 2, 20, 399, 400}) {
            LetterQuay x = Check.quay(1);
            CHECK.due("law() of " + length + " blanks", Check.law(x, " ".repeat(length)), -6);
            CHECK.due("fault()", x.fault(), length);
            CHECK.due("count(3)", x.count(3), 0);
            x = Check.quay(1);
            CHECK.due("orders() of " + length + " blanks", Check.orders(x, " ".repeat(length)), -6);
            CHECK.due("fault()", x.fault(), length);
            CHECK.due("status()", x.status(), -6);
            CHECK.due("stopped()", x.stopped(), -1);
            CHECK.refusals(x, 0, 0, 0, 0, 1);
        }
    }

    private static void lawEmptiesTheTape() {
        CHECK.sentence(13, "The TAPE, which is empty then");
        LetterQuay x = Check.quay(1);
        Check.law(x, "bars");
        CHECK.due("count(5)", x.count(5), 0);
        Check.law(x, "bars bars");
        CHECK.due("count(5) behind a FAULT", x.count(5), 0);
        CHECK.due("law() of nothing", x.law(), -6);
        CHECK.due("fault()", x.fault(), 0);
    }

    private static void faultNoneWithout() {
        CHECK.sentence(15, "its place; NONE without.");
        LetterQuay x = Check.quay(1);
        CHECK.due("fault() ahead of any", x.fault(), -1);
        Check.law(x, "x");
        CHECK.due("a FAULT at the first place", x.fault(), 0);
        Check.law(x, "bars");
        CHECK.due("fault()", x.fault(), -1);
        Check.orders(x, "pass x");
        CHECK.due("fault()", x.fault(), 5);
        CHECK.due("orders() that can't be", Check.orders(x, "swap 5"), -3);
        CHECK.due("fault(): it was read without", x.fault(), -1);
    }

    private static void faultOfTheLatestThatRead() {
        CHECK.sentence(15, "FAULT of the latest law(), orders() that read a TEXT");
        LetterQuay x = Check.quay(1);
        Check.law(x, "bars x");
        x.pass();
        Check.put(x, new byte[] {1, 0, 0, 0});
        x.row();
        x.row();
        CHECK.due("fault() behind other calls", x.fault(), 5);
        Check.orders(x, "");
        CHECK.due("fault() of an empty one", x.fault(), 0);
    }

    private static void noneAtFirst() {
        CHECK.sentence(0, "one is in FORCE (NONE at first: no CLAUSE)");
        LetterQuay x = Check.quay(1, 2);
        Check.law(x, "steps 5; strokes 6; bars");
        CHECK.due("count(11)", x.count(11), -1);
        CHECK.due("of(0, 2)", x.of(0, 2), 1);
        CHECK.due("of(0, 3)", x.of(0, 3), 0);
        CHECK.due("asks(0, 0, 2)", x.asks(0, 0, 2), 1);
        CHECK.due("swap(0)", x.swap(0), 2);
        CHECK.due("stroke(0, 0, 2)", x.stroke(0, 0, 2), 1);
    }

    private static void force() {
        CHECK.sentence(17, "A LAW is in FORCE (NONE: none): which was. -2.");
        LetterQuay x = Check.quay(1);
        Check.law(x, "steps 5");
        Check.law(x, "steps 6");
        CHECK.due("force(1)", x.force(1), -1);
        for (int bad : new int[] {2, 6, -2, MIN, MAX}) {
            CHECK.due("force(" + bad + ")", x.force(bad), -2);
            CHECK.due("status()", x.status(), -2);
            CHECK.due("count(11) stays", x.count(11), 1);
        }
        CHECK.due("force(0)", x.force(0), 1);
        CHECK.due("force(0) again", x.force(0), 0);
        CHECK.refusals(x, 0, 5, 0, 0, 0);
    }

    private static void forceOfNone() {
        CHECK.sentence(17, "(NONE: none)");
        LetterQuay x = Check.quay(1);
        CHECK.due("force(NONE) with no LAW", x.force(-1), -1);
        CHECK.due("status(): it was not REFUSED", x.status(), 0);
        CHECK.due("force(0)", x.force(0), -2);
        Check.force(x, "steps 5");
        CHECK.due("force(NONE)", x.force(-1), 0);
        CHECK.due("status()", x.status(), 0);
        CHECK.due("of(0, 2)", x.of(0, 2), 1);
        CHECK.due("count(11)", x.count(11), -1);
        CHECK.refusals(x, 0, 1, 0, 0, 0);
    }

    private static void words() {
        CHECK.sentence(0, "Words: \"person\" | \"place\" | \"length\" | \"at\" | \"letter\" | \"new\" | \"day\" | \"mood\".");
        String[] words = {"person", "place", "length", "at", "letter", "new", "day", "mood"};
        int[] ofStroke = {2, 1, 4, 3, 5, 1, 60, 9};
        int[] ofStep = {2, 1, 4, -1, -1, -1, 60, 9};
        LetterQuay x = Check.quay(1, 3, 2345);
        x.swap(1);
        x.terms(0, 60);
        x.terms(2, 9);
        x.image(0);
        for (int i = 0; i < words.length; i++) {
            x.back(0);
            Check.force(x, "strokes 10+" + words[i] + "; steps 10+" + words[i]);
            CHECK.due(words[i] + " of a STROKE", x.asks(2, 3, 1), 10 + ofStroke[i]);
            CHECK.due(words[i] + " of a STEP", x.of(2, 2), 10 + ofStep[i]);
        }
    }

    private static void strokesAskedOf() {
        CHECK.sentence(0, "\"strokes\" is asked of a PERSON, which of its LETTERS (at: 0 .. 3), what it is (letter) and what it would be (new)");
        LetterQuay x = Check.quay(5, 1234);
        Check.force(x, "strokes at; strokes 50+letter if new = 5; strokes 60+new if person = 0");
        for (int k = 0; k < 4; k++) {
            CHECK.due("at " + k, x.asks(1, k, k == 0 ? 2 : 1), k);
            CHECK.due("letter at " + k, x.asks(1, k, 5), 51 + k);
        }
        for (int letter = 1; letter < 5; letter++) {
            CHECK.due("new " + letter, x.asks(0, 0, letter), 60 + letter);
        }
    }

    private static void stepsAndBarsAskedOf() {
        CHECK.sentence(0, "\"steps\", \"bars\" of a PERSON (at, letter, new -1)");
        LetterQuay x = Check.quay(12, 3);
        Check.force(x, "steps 50+at+10*letter+20*new; bars if at=0-1 and letter=0-1 and new=0-1 and person=1");
        CHECK.due("of(0, 2)", x.of(0, 2), 50 - 31);
        CHECK.due("of(0, 3)", x.of(0, 3), 0);
        CHECK.due("of(1, 3)", x.of(1, 3), 1);
        CHECK.due("a stroke is barred by what holds of the PERSON alone", x.stroke(1, 0, 1), -3);
        Check.force(x, "bars if at = 0 or letter > 0 or new > 0");
        CHECK.due("stroke(0, 0, 5)", x.stroke(0, 0, 5), 1);
    }

    private static void placeAndLength() {
        CHECK.sentence(0, "place: where it stands, length: how many LETTERS its NAME has.");
        LetterQuay x = Check.quay(1, 12, 123, 1234, 5, 5, 5);
        x.swap(0);
        Check.force(x, "steps 10*place+length; strokes 10*place+length");
        int[] due = {11, 2, 23, 34, 41, 51, 61};
        for (int person = 0; person < 7; person++) {
            CHECK.due("of(" + person + ", 2)", x.of(person, 2), due[person]);
            CHECK.due("asks(" + person + ", 0, 2)", x.asks(person, 0, 2), due[person]);
        }
    }

    private static void strokeCostsWithinBounds() {
        CHECK.sentence(0, "A STROKE costs what the last \"strokes\" that HOLDS tells, 0 .. 99 (else the nearest), 1 without");
        String[] sums = {"0", "1", "98", "99", "100", "1000", "1000*1000*1000", "0-1", "0-1000*1000*1000", "0-0"};
        int[] due = {0, 1, 98, 99, 99, 99, 99, 0, 0, 0};
        for (int i = 0; i < sums.length; i++) {
            LetterQuay x = Check.quay(1);
            Check.force(x, "strokes " + sums[i]);
            CHECK.due("asks by " + sums[i], x.asks(0, 0, 2), due[i]);
            CHECK.due("stroke by " + sums[i], x.stroke(0, 0, 2), due[i]);
            CHECK.due("status(): a cost of 0 is none REFUSED", x.status(), 0);
            CHECK.due("a STEP", x.of(0, 2), 1);
        }
    }

    private static void stepCostsWithinBounds() {
        CHECK.sentence(0, "a STEP of a PERSON 0 .. 99, 1 without");
        String[] sums = {"0", "1", "99", "100", "1000*1000*1000", "0-1", "0-1000*1000*1000"};
        int[] due = {0, 1, 99, 99, 99, 0, 0};
        for (int i = 0; i < sums.length; i++) {
            LetterQuay x = Check.quay(1, 2);
            Check.force(x, "steps " + sums[i]);
            CHECK.due("of(0, 2) by " + sums[i], x.of(0, 2), due[i]);
            CHECK.due("swap(0) by " + sums[i] + ": each is bounded by itself", x.swap(0), 2 * due[i]);
            CHECK.due("a STROKE", x.asks(0, 0, 2), 1);
        }
        LetterQuay x = Check.quay(1, 2);
        Check.force(x, "steps 1000 - [1000+1000] * person");
        CHECK.due("swap(0) of 99 and 0", x.swap(0), 99);
    }

    private static void oneWithout() {
        CHECK.sentence(0, "1 without");
        LetterQuay x = Check.quay(1, 2);
        for (String law : new String[] {"bars if 1=2", "steps 7 if 1=2; strokes 7 if 1=2", "steps 1/0; strokes 1/0", "steps 7 if 1/0=1; strokes 7 if 1/0=1"}) {
            Check.force(x, law);
            CHECK.due("of(0, 2) by " + law, x.of(0, 2), 1);
            CHECK.due("asks(0, 0, 2) by " + law, x.asks(0, 0, 2), 1);
        }
        CHECK.due("swap(0)", x.swap(0), 2);
    }

    private static void lastThatHolds() {
        CHECK.sentence(0, "what the last \"strokes\" that HOLDS tells");
        LetterQuay x = Check.quay(1, 2);
        Check.force(x, "strokes 5; steps 50; strokes 6; bars if 1=2; strokes 7 if person=1; steps 70 if person=1");
        CHECK.due("asks(0, 0, 2)", x.asks(0, 0, 2), 6);
        CHECK.due("asks(1, 0, 1)", x.asks(1, 0, 1), 7);
        CHECK.due("of(0, 2)", x.of(0, 2), 50);
        CHECK.due("of(1, 2)", x.of(1, 2), 70);
    }

    private static void holdsNotWhenBroken() {
        CHECK.sentence(0, "A CLAUSE HOLDS, if its \"if\" (if it has one) is so, and neither that nor its SUM is BROKEN.");
        LetterQuay x = Check.quay(1, 2);
        Check.force(x, "strokes 5; strokes 1/[person-1] + 20; strokes 9 if 1/[person-1] < 9");
        CHECK.due("asks(0, 0, 2): both hold", x.asks(0, 0, 2), 9);
        CHECK.due("asks(1, 0, 1): both are BROKEN", x.asks(1, 0, 1), 5);
        Check.force(x, "strokes 5; strokes 1/0 if 1=2; strokes 1/0 if 1=1");
        CHECK.due("a BROKEN SUM", x.asks(0, 0, 2), 5);
        Check.force(x, "strokes 5; strokes 6 if not 1/0=1; strokes 7 if 1/0=1 or 1=1; strokes 8 if 1=1 or 1/0=1");
        CHECK.due("a TEST that is BROKEN only where it is not asked", x.asks(0, 0, 2), 8);
        Check.force(x, "bars if 1/0=1; bars if not 1/0=1");
        CHECK.due("of(0, 3)", x.of(0, 3), 0);
    }

    private static void barred() {
        CHECK.sentence(0, "a PERSON is BARRED from being changed, if \"bars\" HOLDS");
        LetterQuay x = Check.quay(1, 22, 3);
        Check.force(x, "bars if person = 2; strokes 4; bars if length = 2; bars if 1 = 2");
        int[] due = {0, 1, 1};
        for (int person = 0; person < 3; person++) {
            CHECK.due("of(" + person + ", 3)", x.of(person, 3), due[person]);
            CHECK.due("stroke(" + person + ", 0, 5)", x.stroke(person, 0, 5), due[person] == 1 ? -3 : 4);
        }
        CHECK.due("BARRED ones may be exchanged", x.swap(1), 2);
        CHECK.due("asks(2, 0, 1)", x.asks(2, 0, 1), 4);
        Check.force(x, "bars");
        CHECK.due("bars without if", x.stroke(0, 0, 1), -3);
    }
}
