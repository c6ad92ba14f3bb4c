/** Promises 32 and 37: the cheapest names by which the row is right, by the law in force and by another one. */
public final class MendTest {
    private static final Check CHECK = new Check();

    public static void main(String[] args) {
        plain();
        byLaw();
        byAlphabet();
        barred();
        compare();
        CHECK.finish();
    }

    private static void mended(String what, LetterQuay x, int cost, int... names) {
        CHECK.part("32 mend " + what);
        CHECK.due("mend(0)", x.mend(0), cost);
        for (int place = 0; place < names.length; place++) {
            CHECK.due("mend(1 + " + place + ")", x.mend(1 + place), names[place]);
        }
        CHECK.due("mend beyond the last", x.mend(1 + x.count(0)), -1);
        CHECK.due("mend(-1)", x.mend(-1), -1);
        CHECK.due("mend(min)", x.mend(Integer.MIN_VALUE), -1);
        CHECK.due("mend(max)", x.mend(Integer.MAX_VALUE), -1);
        CHECK.due("status()", x.status(), 0);
    }

    private static void plain() {
        mended("nobody", new LetterQuay(), 0);
        mended("one", Check.quay(5432), 0, 5432);
        mended("a row that is RIGHT", Check.quay(1, 12, 12, 5), 0, 1, 12, 12, 5);
        mended("the first of many", Check.quay(2, 1), 1, 1, 1);
        mended("a beginning behind", Check.quay(21, 2), 1, 11, 2);
        mended("seven", Check.quay(5, 4, 3, 2, 1, 1, 1), 4, 1, 1, 1, 1, 1, 1, 1);
        mended("long ones", Check.quay(5555, 5554, 5551), 2, 1555, 2554, 5551);
        LetterQuay x = Check.quay(3, 1);
        x.swap(0);
        mended("by PLACES", x, 0, 1, 3);
    }

    private static void byLaw() {
        LetterQuay x = Check.quay(2, 1);
        Check.force(x, "strokes 5; strokes 2 if person = 1 and new = 4");
        mended("the cheaper one", x, 2, 2, 4);
        Check.force(x, "strokes 0");
        mended("for nothing", x, 0, 1, 1);
        Check.force(x, "strokes 0 if place = 1");
        mended("by place", x, 0, 2, 2);
        Check.force(x, "strokes day");
        x.pass();
        x.pass();
        x.pass();
        mended("by day", x, 3, 1, 1);
        Check.force(x, "strokes letter * 10");
        mended("by what it is", x, 10, 2, 2);
        LetterQuay two = Check.quay(22, 11);
        Check.force(two, "strokes 9; strokes 1 if letter = 2 and new = 1; strokes 0 if at = 1 and person = 1");
        mended("each LETTER by itself", two, 1, 12, 12);
    }

    private static void byAlphabet() {
        LetterQuay x = Check.quay(1, 3);
        for (int n = 0; n < 2; n++) {
            for (int k = 3; k >= 0; k--) {
                x.decree(k);
            }
        }
        CHECK.due("alphabet()", x.alphabet(), 45123);
        mended("RIGHT by 45123", x, 0, 1, 3);
        x.swap(0);
        mended("the first by 45123", x, 1, 4, 1);
    }

    private static void barred() {
        LetterQuay x = Check.quay(3, 2, 1, 44);
        Check.force(x, "bars if person = 1");
        mended("about one who is BARRED", x, 2, 1, 2, 2, 44);
        Check.force(x, "bars if person = 0 or person = 2");
        mended("between two who are BARRED", x, -1, -1, -1, -1, -1);
        x.swap(1);
        x.swap(0);
        mended("two who are BARRED and RIGHT", x, 1, 1, 3, 3, 44);
        Check.force(x, "bars");
        mended("all BARRED", x, -1, -1);
        LetterQuay right = Check.quay(1, 2);
        Check.force(right, "bars");
        mended("all BARRED and RIGHT", right, 0, 1, 2);
    }

    private static void compare() {
        CHECK.part("37 compare");
        LetterQuay x = Check.quay(2, 1);
        CHECK.due("compare(NONE)", x.compare(-1), 1);
        CHECK.due("compare(0)", x.compare(0), -1);
        Check.law(x, "strokes 7");
        Check.law(x, "strokes 8 if person = 0; strokes 9 if person = 1");
        Check.law(x, "bars");
        CHECK.due("compare(0)", x.compare(0), 7);
        CHECK.due("compare(1)", x.compare(1), 8);
        CHECK.due("compare(2)", x.compare(2), -1);
        CHECK.due("compare(3)", x.compare(3), -1);
        CHECK.due("compare(-2)", x.compare(-2), -1);
        x.force(2);
        CHECK.due("compare(NONE)", x.compare(-1), 1);
        CHECK.due("mend(0)", x.mend(0), -1);
        CHECK.due("compare(0)", x.compare(0), 7);
        CHECK.due("count(11) stays", x.count(11), 2);
        CHECK.due("status()", x.status(), 0);
        CHECK.due("count(7)", x.count(7), 0);
    }
}
