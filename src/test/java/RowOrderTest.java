/** Promises 23 to 27: who is ahead, breaks, exchanges, who steps out, alphabets by which the row is right. */
public final class RowOrderTest {
    private static final Check CHECK = new Check();

    public static void main(String[] args) {
        ahead();
        breaks();
        swaps();
        out();
        right();
        CHECK.finish();
    }

    private static void ahead() {
        CHECK.part("23 ahead");
        LetterQuay x = Check.quay(21, 2, 13, 21, 2111);
        CHECK.due("ahead(2, 0)", x.ahead(2, 0), 1);
        CHECK.due("ahead(0, 2)", x.ahead(0, 2), 2);
        CHECK.due("ahead(1, 0): a beginning", x.ahead(1, 0), 1);
        CHECK.due("ahead(0, 1)", x.ahead(0, 1), 2);
        CHECK.due("ahead(0, 4): a beginning", x.ahead(0, 4), 1);
        CHECK.due("ahead(0, 3): ALIKE", x.ahead(0, 3), 0);
        CHECK.due("ahead(0, 0)", x.ahead(0, 0), 0);
        CHECK.due("ahead(0, 5)", x.ahead(0, 5), -1);
        CHECK.due("ahead(5, 0)", x.ahead(5, 0), -1);
        CHECK.due("ahead(-1, 0)", x.ahead(-1, 0), -1);
        x.decree(0);
        CHECK.due("ahead(2, 0) by 21345", x.ahead(2, 0), 2);
        CHECK.due("ahead(1, 0) by 21345", x.ahead(1, 0), 1);
        LetterQuay all = Check.quay(1, 2, 3, 4, 5);
        for (int k = 0; k < 4; k++) {
            all.decree(k);
            String letters = String.valueOf(all.alphabet());
            for (int one = 0; one < 5; one++) {
                for (int other = 0; other < 5; other++) {
                    int d = letters.indexOf('1' + one) - letters.indexOf('1' + other);
                    CHECK.due("ahead(" + one + ", " + other + ") by " + letters, all.ahead(one, other), d < 0 ? 1 : d > 0 ? 2 : 0);
                }
            }
        }
    }

    private static void breaks() {
        CHECK.part("24 breaks");
        LetterQuay x = Check.quay(3, 2, 2, 1, 5, 4);
        CHECK.due("breaks(NONE)", x.breaks(-1), 3);
        CHECK.due("breaks(0)", x.breaks(0), 0);
        CHECK.due("breaks(1)", x.breaks(1), 2);
        CHECK.due("breaks(2)", x.breaks(2), 4);
        CHECK.due("breaks(3)", x.breaks(3), -1);
        CHECK.due("breaks(-2)", x.breaks(-2), -1);
        CHECK.due("breaks(min)", x.breaks(Integer.MIN_VALUE), -1);
        CHECK.due("count(1)", x.count(1), 3);
        x.swap(0);
        CHECK.due("breaks(0) behind swap(0)", x.breaks(0), 1);
        CHECK.due("breaks(0) of one alone", Check.quay(1).breaks(0), -1);
    }

    private static void swaps() {
        CHECK.part("25 swaps");
        CHECK.due("swaps()", Check.quay(5, 4, 3, 2, 1).swaps(), 10);
        CHECK.due("swaps() of ALIKE ones", Check.quay(2, 2, 2).swaps(), 0);
        CHECK.due("swaps()", Check.quay(2, 1, 2, 1).swaps(), 3);
        CHECK.due("swaps() of seven", Check.quay(55, 54, 53, 52, 51, 5, 4).swaps(), 21);
        CHECK.due("swaps() of nobody", new LetterQuay().swaps(), 0);
    }

    private static void out() {
        CHECK.part("26 out");
        LetterQuay x = Check.quay(2, 1, 3, 3, 2);
        CHECK.due("out(0)", x.out(0), 2);
        CHECK.due("out(1): PLACES 0, 4 or 1, 4", x.out(1), 17);
        CHECK.due("out(2)", x.out(2), -1);
        CHECK.due("out(-1)", x.out(-1), -1);
        x.swap(0);
        CHECK.due("out(0)", x.out(0), 1);
        CHECK.due("out(1)", x.out(1), 16);
        CHECK.due("out(0) of a row that is RIGHT", Check.quay(1, 1, 2).out(0), 0);
        CHECK.due("out(1) of a row that is RIGHT", Check.quay(1, 1, 2).out(1), 0);
        LetterQuay down = Check.quay(55, 54, 53, 52, 51, 5, 4);
        CHECK.due("out(0) of seven", down.out(0), 6);
        CHECK.due("out(1) of seven", down.out(1), 63);
    }

    private static void right() {
        CHECK.part("27 right");
        LetterQuay x = Check.quay(2, 1, 14, 15);
        CHECK.due("right(NONE): 2 ahead of 1, 4 ahead of 5", x.right(-1), 30);
        CHECK.due("right(0)", x.right(0), 21345);
        CHECK.due("right(29)", x.right(29), 45321);
        CHECK.due("right(30)", x.right(30), -1);
        CHECK.due("right(-2)", x.right(-2), -1);
        CHECK.due("right(NONE) of a beginning behind", Check.quay(21, 2).right(-1), 0);
        CHECK.due("right(NONE) of a beginning ahead", Check.quay(2, 21, 21).right(-1), 120);
        CHECK.due("right(NONE) of a ring", Check.quay(1, 2, 1).right(-1), 0);
        CHECK.due("right(NONE) of one way alone", Check.quay(5, 4, 3, 2, 1).right(-1), 1);
        CHECK.due("right(0) of one way alone", Check.quay(5, 4, 3, 2, 1).right(0), 54321);
        LetterQuay after = Check.quay(1, 2);
        after.heard(1, 0);
        after.fits(-1);
        CHECK.due("right(0) knows nothing of what was HEARD", after.right(0), 12345);
        after.right(0);
        CHECK.due("right(NONE) twice", after.right(-1), 60);
        LetterQuay empty = new LetterQuay();
        int last = 0;
        for (int i = 0; i < 120; i++) {
            CHECK.so("right(" + i + ") rises", empty.right(i) > last);
            last = empty.right(i);
        }
        CHECK.due("right(119)", last, 54321);
        CHECK.due("alphabet() stays", x.alphabet(), 12345);
    }
}
