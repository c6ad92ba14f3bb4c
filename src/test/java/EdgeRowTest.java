/** Promises 23 to 31 at their edges: a part of its own for each sentence that names one. */
public final class EdgeRowTest {
    private static final Check CHECK = new Check();
    private static final int MIN = Integer.MIN_VALUE;
    private static final int MAX = Integer.MAX_VALUE;
    private static final int[] FALLING = {55, 54, 53, 52, 51, 5, 4};
    private static final int[] RISING = {4, 5, 51, 52, 53, 54, 55};

    public static void main(String[] args) {
        ahead();
        breaks();
        breaksOfFew();
        breaksOfAlike();
        swaps();
        swapsLeaveAlikeOnes();
        out();
        outByTheAlphabet();
        outIsTheLowest();
        outNone();
        right();
        rightOfFew();
        rightNone();
        heardOfOneAlone();
        heardOfNobody();
        heardEightTimes();
        forget();
        fits();
        fitsOfAlike();
        askIsTheLowest();
        askOfSureOnes();
        askNone();
        CHECK.finish();
    }

    private static void ahead() {
        CHECK.sentence(23, "Whether the NAME of one is AHEAD of that of another one (1), ALIKE (0), behind it (2). NONE.");
        LetterQuay x = Check.quay(1, 2, 1);
        CHECK.due("ahead(0, 1)", x.ahead(0, 1), 1);
        CHECK.due("ahead(0, 2)", x.ahead(0, 2), 0);
        CHECK.due("ahead(1, 0)", x.ahead(1, 0), 2);
        CHECK.due("ahead(1, 1): of oneself", x.ahead(1, 1), 0);
        for (int bad : new int[] {-1, 3, 7, MIN, MAX}) {
            CHECK.due("ahead(" + bad + ", 0)", x.ahead(bad, 0), -1);
            CHECK.due("ahead(0, " + bad + ")", x.ahead(0, bad), -1);
            CHECK.due("ahead(" + bad + ", " + bad + ")", x.ahead(bad, bad), -1);
        }
        CHECK.refusals(x, 0, 0, 0, 0, 0);
    }

    private static void breaks() {
        CHECK.sentence(24, "BREAKS: how many (i NONE), the i-th PLACE. NONE.");
        LetterQuay x = Check.quay(FALLING);
        CHECK.due("breaks(NONE)", x.breaks(-1), 6);
        CHECK.due("count(1)", x.count(1), 6);
        for (int i = 0; i < 6; i++) {
            CHECK.due("breaks(" + i + ")", x.breaks(i), i);
        }
        for (int bad : new int[] {6, 7, -2, MIN, MAX}) {
            CHECK.due("breaks(" + bad + ")", x.breaks(bad), -1);
        }
        LetterQuay ends = Check.quay(2, 1, 1, 1, 1, 2, 1);
        CHECK.due("the first PLACE", ends.breaks(0), 0);
        CHECK.due("the last PLACE but one", ends.breaks(1), 5);
        CHECK.due("no more", ends.breaks(2), -1);
    }

    private static void breaksOfFew() {
        CHECK.sentence(0, "The ROW BREAKS the order at each PLACE behind which the next one's NAME is AHEAD; it is RIGHT without BREAKS.");
        for (LetterQuay x : new LetterQuay[] {new LetterQuay(), Check.quay(5), Check.quay(RISING)}) {
            CHECK.due("breaks(NONE)", x.breaks(-1), 0);
            CHECK.due("breaks(0)", x.breaks(0), -1);
            CHECK.due("count(1)", x.count(1), 0);
        }
    }

    private static void breaksOfAlike() {
        CHECK.sentence(0, "at each PLACE behind which the next one's NAME is AHEAD");
        CHECK.due("ALIKE ones", Check.quay(3, 3, 3).breaks(-1), 0);
        CHECK.due("a beginning behind", Check.quay(33, 3).breaks(-1), 1);
        CHECK.due("a beginning ahead", Check.quay(3, 33).breaks(-1), 0);
    }

    private static void swaps() {
        CHECK.sentence(0, "SWAPS: the fewest of neighbours by which it is RIGHT");
        CHECK.sentence(25, "SWAPS.");
        CHECK.due("of nobody", new LetterQuay().swaps(), 0);
        CHECK.due("of one", Check.quay(1).swaps(), 0);
        CHECK.due("of a row that is RIGHT", Check.quay(RISING).swaps(), 0);
        CHECK.due("of seven turned about", Check.quay(FALLING).swaps(), 21);
        CHECK.due("the last one first", Check.quay(5, 1, 2, 3, 4, 4, 4).swaps(), 6);
        LetterQuay x = Check.quay(FALLING);
        for (int left = 21; left > 0; left--) {
            CHECK.due("swaps()", x.swaps(), left);
            x.swap(x.breaks(0));
        }
        CHECK.due("breaks(NONE)", x.breaks(-1), 0);
    }

    private static void swapsLeaveAlikeOnes() {
        CHECK.sentence(0, "(ALIKE ones stay as they are)");
        CHECK.due("ALIKE ones", Check.quay(2, 2, 2, 2, 2, 2, 2).swaps(), 0);
        CHECK.due("ALIKE ones about another", Check.quay(2, 1, 2).swaps(), 1);
        CHECK.due("ALIKE ones behind", Check.quay(2, 2, 1, 1).swaps(), 4);
    }

    private static void out() {
        CHECK.sentence(0, "OUT: the fewest PEOPLE who, standing elsewhere, could make it RIGHT, all others staying in their order");
        int[][] rows = {{}, {5}, RISING, FALLING, {2, 1}, {3, 3, 3}, {2, 3, 1}, {5, 1, 2, 3, 4, 4, 4}, {1, 2, 3, 4, 5, 5, 1}};
        int[] many = {0, 0, 0, 6, 1, 0, 1, 1, 1};
        int[] bits = {0, 0, 0, 63, 1, 0, 4, 1, 64};
        for (int i = 0; i < rows.length; i++) {
            LetterQuay x = Check.quay(rows[i]);
            CHECK.due("out(0) of row " + i, x.out(0), many[i]);
            CHECK.due("out(1) of row " + i, x.out(1), bits[i]);
        }
    }

    private static void outByTheAlphabet() {
        CHECK.sentence(0, "could make it RIGHT");
        int[][] rows = {{1, 2, 3, 4, 5}, {5, 4, 3, 2, 1}, {1, 5}, {5, 1}, {1, 11, 5}, {55, 5, 1}};
        int[] bits = {15, 0, 1, 0, 4, 1};
        for (int i = 0; i < rows.length; i++) {
            LetterQuay x = Check.quay(rows[i]);
            Check.turnAbout(x);
            CHECK.due("out(0) of row " + i + " by 54321", x.out(0), Integer.bitCount(bits[i]));
            CHECK.due("out(1) of row " + i + " by 54321", x.out(1), bits[i]);
        }
    }

    private static void outIsTheLowest() {
        CHECK.sentence(0, "the lowest as bits of PLACES");
        CHECK.due("either of two", Check.quay(2, 1).out(1), 1);
        CHECK.due("either of two at the end", Check.quay(1, 1, 1, 1, 1, 5, 4).out(1), 32);
        // One has to stay of 2 and 1, and of 4 and 3.
        CHECK.due("two of four", Check.quay(2, 1, 4, 3).out(1), 5);
        LetterQuay x = Check.quay(1, 2);
        x.swap(0);
        CHECK.due("by PLACES, not by PEOPLE", x.out(1), 1);
        x = Check.quay(2, 3, 1);
        x.swap(1);
        x.swap(0);
        CHECK.due("RIGHT by PLACES", x.out(1), 0);
    }

    private static void outNone() {
        CHECK.sentence(26, "OUT: how many (what 0), at which PLACES, as bits (1). NONE.");
        LetterQuay x = Check.quay(2, 1);
        for (int bad : new int[] {-1, 2, MIN, MAX}) {
            CHECK.due("out(" + bad + ")", x.out(bad), -1);
        }
        CHECK.refusals(x, 0, 0, 0, 0, 0);
    }

    private static void right() {
        CHECK.sentence(0, "RIGHT by which ALPHABETS (of all 120, as numbers, rising).");
        LetterQuay x = new LetterQuay();
        int last = 0;
        for (int i = 0; i < 120; i++) {
            int next = x.right(i);
            CHECK.so("right(" + i + ") rises", next > last);
            CHECK.so("right(" + i + ") has all LETTERS", String.valueOf(next).chars().sorted().distinct().count() == 5 && String.valueOf(next).matches("[1-5]{5}"));
            last = next;
        }
        CHECK.due("right(NONE)", x.right(-1), 120);
        CHECK.due("right(0)", x.right(0), 12345);
        CHECK.due("right(119)", x.right(119), 54321);
        CHECK.due("right(120)", x.right(120), -1);
    }

    private static void rightOfFew() {
        CHECK.sentence(27, "RIGHT: how many ALPHABETS (i NONE), the i-th. NONE.");
        int[][] rows = {{5}, {3, 3}, {3, 33}, {33, 3}, {1, 2}, {1, 2, 3, 4, 5}, {5, 4, 3, 2, 1}, {1, 2, 1}, {12, 13, 2, 3}, {1, 11, 2, 22, 3, 4, 5}};
        int[] many = {120, 120, 120, 0, 60, 1, 1, 0, 20, 1};
        for (int i = 0; i < rows.length; i++) {
            LetterQuay x = Check.quay(rows[i]);
            CHECK.due("right(NONE) of row " + i, x.right(-1), many[i]);
            CHECK.so("the last of row " + i, many[i] == 0 || x.right(many[i] - 1) >= 12345);
            CHECK.due("behind the last of row " + i, x.right(many[i]), -1);
        }
        CHECK.due("the one of one", Check.quay(5, 4, 3, 2, 1).right(0), 54321);
    }

    private static void rightNone() {
        CHECK.sentence(27, "the i-th. NONE.");
        LetterQuay x = Check.quay(1, 2);
        for (int bad : new int[] {60, 61, 120, -2, MIN, MAX}) {
            CHECK.due("right(" + bad + ")", x.right(bad), -1);
        }
        CHECK.due("right(59)", x.right(59), 54312);
        x.heard(1, 0);
        CHECK.due("fits(0)", x.fits(0), 21345);
        CHECK.due("right(0) knows nothing of what was HEARD", x.right(0), 12345);
        CHECK.due("fits(0) knows nothing of the ROW", x.fits(0), 21345);
        x.decree(0);
        CHECK.due("right(NONE) knows nothing of the ALPHABET", x.right(-1), 60);
    }

    private static void heardOfOneAlone() {
        CHECK.sentence(28, "-1 (one alone)");
        LetterQuay x = Check.quay(1, 2);
        for (int one : new int[] {0, 1, 2, -1, MIN, MAX}) {
            CHECK.due("heard(" + one + ", " + one + ")", x.heard(one, one), -1);
            CHECK.due("status()", x.status(), -1);
        }
        CHECK.due("count(2)", x.count(2), 0);
        CHECK.refusals(x, 6, 0, 0, 0, 0);
    }

    private static void heardOfNobody() {
        CHECK.sentence(28, "HEARD: how often there was. -1 (one alone); -2; -5.");
        LetterQuay x = Check.quay(1, 2);
        for (int bad : new int[] {2, -1, MIN, MAX}) {
            CHECK.due("heard(0, " + bad + ")", x.heard(0, bad), -2);
            CHECK.due("heard(" + bad + ", 0)", x.heard(bad, 0), -2);
        }
        CHECK.due("count(2)", x.count(2), 0);
        CHECK.refusals(x, 0, 8, 0, 0, 0);
    }

    private static void heardEightTimes() {
        CHECK.sentence(0, "HEARD, 8 at most: one of the PEOPLE is ahead of another one by its NAME.");
        LetterQuay x = Check.quay(1, 2, 3);
        for (int n = 1; n <= 8; n++) {
            CHECK.due("heard(0, 1)", x.heard(0, 1), n);
        }
        CHECK.due("a ninth", x.heard(0, 1), -5);
        CHECK.due("status()", x.status(), -5);
        CHECK.due("a ninth of one alone: -1 comes first", x.heard(0, 0), -1);
        CHECK.due("a ninth of nobody: -2 comes first", x.heard(0, 3), -2);
        CHECK.due("count(2)", x.count(2), 8);
        CHECK.refusals(x, 1, 1, 0, 1, 0);
        x.forget();
        for (int n = 0; n < 7; n++) {
            x.heard(0, 1);
        }
        x.heard(2, 1);
        CHECK.due("the eighth counts", x.fits(-1), 40);
        x.heard(1, 0);
        CHECK.due("a ninth does not", x.fits(-1), 40);
    }

    private static void forget() {
        CHECK.sentence(29, "HEARD is nothing then: how often there was.");
        LetterQuay x = Check.quay(1, 2);
        CHECK.due("forget() of nothing", x.forget(), 0);
        for (int n = 0; n < 8; n++) {
            x.heard(1, 0);
        }
        CHECK.due("forget()", x.forget(), 8);
        CHECK.due("count(2)", x.count(2), 0);
        CHECK.due("fits(NONE)", x.fits(-1), 120);
        CHECK.due("forget() again", x.forget(), 0);
        CHECK.due("heard(0, 1)", x.heard(0, 1), 1);
        CHECK.due("fits(0)", x.fits(0), 12345);
    }

    private static void fits() {
        CHECK.sentence(0, "FITTING: ALPHABETS by which all HEARD is so.");
        CHECK.sentence(30, "FITTING: how many ALPHABETS (i NONE), the i-th. NONE.");
        LetterQuay x = Check.quay(5, 4, 3, 2, 1, 12);
        CHECK.due("fits(119) of nothing HEARD", x.fits(119), 54321);
        CHECK.due("fits(120)", x.fits(120), -1);
        for (int n = 0; n < 4; n++) {
            x.heard(n, n + 1);
        }
        CHECK.due("one alone", x.fits(-1), 1);
        CHECK.due("fits(0)", x.fits(0), 54321);
        for (int bad : new int[] {1, 2, 120, -2, MIN, MAX}) {
            CHECK.due("fits(" + bad + ")", x.fits(bad), -1);
        }
        x.heard(4, 5);
        CHECK.due("a beginning is AHEAD by all", x.fits(-1), 1);
        x.heard(5, 0);
        CHECK.due("none", x.fits(-1), 0);
        CHECK.due("fits(0) of none", x.fits(0), -1);
    }

    private static void fitsOfAlike() {
        CHECK.sentence(0, "one of the PEOPLE is ahead of another one by its NAME");
        LetterQuay x = Check.quay(3, 3, 31);
        x.heard(0, 2);
        CHECK.due("a beginning", x.fits(-1), 120);
        x.heard(0, 1);
        CHECK.due("ALIKE ones: none is AHEAD", x.fits(-1), 0);
        x.forget();
        x.heard(2, 0);
        CHECK.due("behind its beginning", x.fits(-1), 0);
    }

    private static void askIsTheLowest() {
        CHECK.sentence(0, "as ten times the lower and the higher one, the lowest");
        CHECK.due("of seven by the same", Check.quay(1, 2, 3, 4, 5, 12, 13).ask(0), 1);
        CHECK.due("the last two alone", Check.quay(1, 1, 1, 1, 1, 1, 2).ask(0), 6);
        LetterQuay x = Check.quay(1, 11, 111, 1111, 111, 11, 2);
        CHECK.due("beginnings leave all", x.ask(0), 6);
        CHECK.due("ask(1)", x.ask(1), 60);
        LetterQuay last = Check.quay(1, 1, 1, 1, 1, 12, 13);
        CHECK.due("56: all others are beginnings or ALIKE", last.ask(0), 56);
        CHECK.due("ask(1)", last.ask(1), 60);
        LetterQuay known = Check.quay(1, 2, 3);
        known.heard(0, 1);
        CHECK.due("not what is known, and the lowest", known.ask(0), 2);
        CHECK.due("1 ahead of 3 by 40 of 60", known.ask(1), 40);
        known.heard(0, 2);
        CHECK.due("2, 3 alone are open", known.ask(0), 12);
        CHECK.due("ask(1)", known.ask(1), 20);
    }

    private static void askOfSureOnes() {
        CHECK.sentence(0, "To ASK: of two PEOPLE with unlike NAMES those of whom the more of FITTING ones (by which the lower one is AHEAD, by which the other one) is least");
        CHECK.due("a beginning", Check.quay(2, 21).ask(0), 1);
        CHECK.due("by all", Check.quay(2, 21).ask(1), 120);
        CHECK.due("by none", Check.quay(21, 2).ask(1), 120);
        LetterQuay x = Check.quay(1, 2);
        x.heard(1, 0);
        CHECK.due("what was HEARD", x.ask(0), 1);
        CHECK.due("all of 60", x.ask(1), 60);
        LetterQuay one = Check.quay(1, 2, 3, 4, 5);
        for (int n = 0; n < 4; n++) {
            one.heard(n, n + 1);
        }
        CHECK.due("one ALPHABET left", one.ask(0), 1);
        CHECK.due("ask(1)", one.ask(1), 1);
    }

    private static void askNone() {
        CHECK.sentence(31, "To ASK: those two (what 0), how many ALPHABETS are left at most (1). NONE (none FITS; no two with unlike NAMES).");
        LetterQuay x = Check.quay(1, 2);
        for (int bad : new int[] {-1, 2, MIN, MAX}) {
            CHECK.due("ask(" + bad + ")", x.ask(bad), -1);
        }
        x.heard(0, 1);
        x.heard(1, 0);
        LetterQuay[] none = {x, new LetterQuay(), Check.quay(1), Check.quay(1, 1), Check.quay(5, 5, 5, 5, 5, 5, 5)};
        for (LetterQuay y : none) {
            CHECK.due("ask(0)", y.ask(0), -1);
            CHECK.due("ask(1)", y.ask(1), -1);
            CHECK.refusals(y, 0, 0, 0, 0, 0);
        }
    }
}
