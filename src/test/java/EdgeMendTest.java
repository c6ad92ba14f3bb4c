/** Promises 32 and 37 at their edges: a part of its own for each sentence that names one. */
public final class EdgeMendTest {
    private static final Check CHECK = new Check();
    private static final int MIN = Integer.MIN_VALUE;
    private static final int MAX = Integer.MAX_VALUE;

    public static void main(String[] args) {
        mendNone();
        mendOfFew();
        asLongAsItsOwn();
        barredKeepTheirOwn();
        itCannotBe();
        leastTogether();
        dearest();
        forNothing();
        placeAndDayAsNow();
        eachLetterByItself();
        firstOfLikeOnes();
        firstByTheAlphabet();
        mendOfFewerThen();
        mendChangesNothing();
        compareNone();
        compareWithNone();
        compareInPlaceOfForce();
        CHECK.finish();
    }

    private static void mended(LetterQuay x, int cost, int... names) {
        CHECK.due("mend(0)", x.mend(0), cost);
        for (int place = 0; place < names.length; place++) {
            CHECK.due("mend(1 + " + place + ")", x.mend(1 + place), names[place]);
        }
        CHECK.due("mend beyond the last", x.mend(1 + x.count(0)), -1);
    }

    private static void mendNone() {
        CHECK.sentence(32, "MENDED: what it costs (what 0), the NAME at PLACE p (1 + p). NONE (it can't be).");
        LetterQuay x = Check.quay(1, 2, 3, 4, 5, 5, 5);
        for (int bad : new int[] {-1, 8, 9, MIN, MAX}) {
            CHECK.due("mend(" + bad + ")", x.mend(bad), -1);
        }
        CHECK.due("the last", x.mend(7), 5);
        CHECK.due("status()", x.status(), 0);
        CHECK.refusals(x, 0, 0, 0, 0, 0);
    }

    private static void mendOfFew() {
        CHECK.sentence(32, "what it costs (what 0), the NAME at PLACE p (1 + p)");
        mended(new LetterQuay(), 0);
        mended(Check.quay(5555), 0, 5555);
        mended(Check.quay(1, 1), 0, 1, 1);
        mended(Check.quay(5, 55, 555, 5555, 5555, 5555, 5555), 0, 5, 55, 555, 5555, 5555, 5555, 5555);
    }

    private static void asLongAsItsOwn() {
        CHECK.sentence(0, "MENDED: all where they stand, each with a NAME as long as its own");
        // Of the same LETTERS a longer one can't be ahead of a shorter one.
        mended(Check.quay(1111, 111, 11, 1), 3, 1111, 112, 12, 2);
        mended(Check.quay(1, 11, 111, 1111), 0, 1, 11, 111, 1111);
        mended(Check.quay(5555, 5), 1, 1555, 5);
        mended(Check.quay(55, 5, 5), 1, 15, 5, 5);
    }

    private static void barredKeepTheirOwn() {
        CHECK.sentence(0, "(BARRED ones with their own)");
        LetterQuay x = Check.quay(5, 3, 1);
        Check.force(x, "bars if person = 1");
        mended(x, 2, 1, 3, 3);
        Check.force(x, "bars if person = 0");
        mended(x, 2, 5, 5, 5);
        Check.force(x, "bars if person = 2");
        mended(x, 2, 1, 1, 1);
        Check.force(x, "bars if person = 1; strokes 0");
        mended(x, 0, 1, 3, 3);
    }

    private static void itCannotBe() {
        CHECK.sentence(32, "NONE (it can't be)");
        LetterQuay x = Check.quay(5, 3, 1);
        Check.force(x, "bars if person = 0 or person = 1");
        mended(x, -1, -1, -1, -1);
        Check.force(x, "bars if person = 0 or person = 2");
        mended(x, -1, -1, -1, -1);
        Check.force(x, "bars");
        mended(x, -1, -1, -1, -1);
        LetterQuay between = Check.quay(1, 55, 1);
        Check.force(between, "bars if not person = 1");
        mended(between, -1, -1, -1, -1);
        LetterQuay behind = Check.quay(5555, 5);
        Check.force(behind, "bars if person = 0");
        mended(behind, -1, -1, -1);
        LetterQuay just = Check.quay(5555, 1111);
        Check.force(just, "bars if person = 0");
        mended(just, 4, 5555, 5555);
        LetterQuay first = Check.quay(1111, 1111);
        Check.force(first, "bars");
        mended(first, 0, 1111, 1111);
        CHECK.due("status()", x.status(), 0);
    }

    private static void leastTogether() {
        CHECK.sentence(0, "so that the ROW is RIGHT: the least all STROKES cost together");
        LetterQuay x = Check.quay(3, 2, 1);
        Check.force(x, "strokes 5; strokes 4 if person = 1; strokes 9 if person = 1 and new = 1");
        mended(x, 9, 3, 3, 3);
        CHECK.part("two changes for less than one");
        Check.force(x, "strokes 9; strokes 1 if person = 0 or person = 1; strokes 50 if person = 2");
        mended(x, 2, 1, 1, 1);
        Check.force(x, "strokes 99; strokes 48 if person = 0 and new = 2; strokes 50 if person = 2 and new = 2");
        mended(x, 98, 2, 2, 2);
    }

    /** Each of seven has to change all four LETTERS but for the last one, who is BARRED: 6 times 4 times 99. */
    private static void dearest() {
        CHECK.sentence(0, "0 .. 99 (else the nearest)");
        LetterQuay x = Check.quay(5555, 5555, 5555, 5555, 5555, 5555, 1111);
        Check.force(x, "strokes 1000; bars if person = 6");
        mended(x, 2376, 1111, 1111, 1111, 1111, 1111, 1111, 1111);
        Check.force(x, "strokes 1000");
        mended(x, 396, 5555, 5555, 5555, 5555, 5555, 5555, 5555);
    }

    private static void forNothing() {
        CHECK.sentence(0, "the least all STROKES cost together");
        LetterQuay x = Check.quay(5432, 32, 4);
        Check.force(x, "strokes 0-5");
        mended(x, 0, 1111, 12, 2);
        LetterQuay right = Check.quay(2, 3);
        Check.force(right, "strokes 0 if new = 1");
        CHECK.part("a row that is RIGHT changes, if another one is first for nothing");
        mended(right, 0, 1, 1);
    }

    private static void placeAndDayAsNow() {
        CHECK.sentence(0, "(place, day as now, each LETTER by itself)");
        LetterQuay x = Check.quay(1, 3);
        x.swap(0);
        x.terms(0, 7);
        Check.force(x, "strokes 10*day+place");
        mended(x, 70, 1, 1);
        x.terms(2, 9);
        Check.force(x, "strokes day+10*mood if person = 0; strokes 98 if person = 1");
        mended(x, 97, 3, 3);
    }

    private static void eachLetterByItself() {
        CHECK.sentence(0, "each LETTER by itself");
        LetterQuay x = Check.quay(55, 11);
        // By what it is now: each of both costs 5, though the first one's becoming 1 would change what stands.
        Check.force(x, "strokes letter; strokes 0 if person = 1 and at = 1");
        mended(x, 1, 55, 55);
    }

    private static void firstOfLikeOnes() {
        CHECK.sentence(0, "the first as a row of NAMES by PLACES, as they are AHEAD of one another");
        mended(Check.quay(2, 1), 1, 1, 1);
        mended(Check.quay(5, 4), 1, 1, 4);
        mended(Check.quay(5, 4, 3), 2, 1, 1, 3);
        mended(Check.quay(22, 21), 1, 12, 21);
        mended(Check.quay(1, 3, 2), 1, 1, 1, 2);
        mended(Check.quay(21, 2), 1, 11, 2);
    }

    private static void firstByTheAlphabet() {
        CHECK.sentence(0, "as they are AHEAD of one another");
        LetterQuay x = Check.quay(2, 1);
        Check.turnAbout(x);
        CHECK.due("alphabet()", x.alphabet(), 54321);
        mended(x, 0, 2, 1);
        x.swap(0);
        mended(x, 1, 5, 2);
    }

    private static void mendOfFewerThen() {
        CHECK.sentence(32, "MENDED: what it costs (what 0), the NAME at PLACE p (1 + p).");
        LetterQuay x = new LetterQuay();
        x.image(0);
        x.person(3);
        x.person(2);
        x.image(1);
        x.person(2);
        x.person(1);
        Check.force(x, "strokes 50");
        mended(x, 100, 1, 2, 2, 2);
        x.back(1);
        mended(x, 1, 1, 2);
        x.back(0);
        mended(x, 0);
    }

    private static void mendChangesNothing() {
        CHECK.sentence(0, "(On paper, DAY as now:)");
        LetterQuay x = Check.quay(2, 1);
        x.mend(0);
        x.mend(1);
        x.compare(-1);
        CHECK.due("of(0, 0)", x.of(0, 0), 2);
        CHECK.due("breaks(NONE)", x.breaks(-1), 1);
        CHECK.due("count(4)", x.count(4), 0);
        x.stroke(0, 0, 1);
        mended(x, 0, 1, 1);
    }

    private static void compareNone() {
        CHECK.sentence(37, "COMPARED. NONE (no such LAW; it can't be).");
        LetterQuay x = Check.quay(2, 1);
        Check.law(x, "strokes 7");
        Check.law(x, "bars");
        CHECK.due("compare(0)", x.compare(0), 7);
        CHECK.due("compare(1): it can't be", x.compare(1), -1);
        for (int bad : new int[] {2, 6, -2, MIN, MAX}) {
            CHECK.due("compare(" + bad + ")", x.compare(bad), -1);
        }
        CHECK.due("status()", x.status(), 0);
        CHECK.refusals(x, 0, 0, 0, 0, 0);
    }

    private static void compareWithNone() {
        CHECK.sentence(0, "COMPARED: MENDED by a LAW in place of that in FORCE (NONE: none).");
        CHECK.due("of nobody", new LetterQuay().compare(-1), 0);
        LetterQuay x = Check.quay(2, 1);
        CHECK.due("with no LAW", x.compare(-1), 1);
        Check.force(x, "bars; strokes 9");
        CHECK.due("with one in FORCE", x.compare(-1), 1);
        CHECK.due("mend(0)", x.mend(0), -1);
        CHECK.due("count(11) stays", x.count(11), 0);
    }

    private static void compareInPlaceOfForce() {
        CHECK.sentence(0, "MENDED by a LAW in place of that in FORCE");
        LetterQuay x = Check.quay(2, 1);
        for (int law = 0; law < 6; law++) {
            Check.law(x, "strokes " + (20 + law));
        }
        x.force(2);
        for (int law = 0; law < 6; law++) {
            CHECK.due("compare(" + law + ")", x.compare(law), 20 + law);
        }
        CHECK.due("mend(0)", x.mend(0), 22);
        CHECK.due("count(11) stays", x.count(11), 2);
    }
}
