/** Promise 17 and what LAWS mean: what a STROKE, a STEP cost, who is BARRED. */
public final class LawTest {
    private static final Check CHECK = new Check();

    public static void main(String[] args) {
        force();
        strokes();
        steps();
        bars();
        CHECK.finish();
    }

    private static void force() {
        CHECK.part("17 force");
        LetterQuay x = Check.quay(1);
        CHECK.due("force(NONE)", x.force(-1), -1);
        CHECK.due("status() of an answer -1 that is none REFUSED", x.status(), 0);
        CHECK.due("force(0)", x.force(0), -2);
        CHECK.due("status()", x.status(), -2);
        Check.law(x, "steps 5");
        Check.law(x, "steps 6");
        CHECK.due("of(0, 2) with none in FORCE", x.of(0, 2), 1);
        CHECK.due("force(1)", x.force(1), -1);
        CHECK.due("of(0, 2)", x.of(0, 2), 6);
        CHECK.due("count(11)", x.count(11), 1);
        CHECK.due("force(0)", x.force(0), 1);
        CHECK.due("of(0, 2)", x.of(0, 2), 5);
        CHECK.due("force(2)", x.force(2), -2);
        CHECK.due("force(-2)", x.force(-2), -2);
        CHECK.due("count(11)", x.count(11), 0);
        CHECK.due("force(NONE)", x.force(-1), 0);
        CHECK.due("of(0, 2)", x.of(0, 2), 1);
        CHECK.due("count(7)", x.count(7), 3);
    }

    private static void strokes() {
        CHECK.part("strokes");
        LetterQuay x = Check.quay(1, 2345);
        x.swap(0);
        x.terms(0, 3);
        x.terms(2, 4);
        Check.force(x, "strokes 7; strokes 20 if at = 0; strokes 1/[new-3]+30 if at = 1; steps 50; strokes 0-5 if new = 2 and at = 2; strokes 1000 if at = 3");
        CHECK.due("asks(1, 0, 1)", x.asks(1, 0, 1), 20);
        CHECK.due("asks(1, 1, 4)", x.asks(1, 1, 4), 31);
        CHECK.due("asks(1, 1, 1)", x.asks(1, 1, 1), 30);
        CHECK.due("asks(1, 2, 3)", x.asks(1, 2, 3), 7);
        CHECK.due("asks(1, 2, 2)", x.asks(1, 2, 2), 0);
        CHECK.due("asks(1, 3, 2)", x.asks(1, 3, 2), 99);
        Check.force(x, "strokes 7 if 1=1; strokes 1/[place-1]; strokes 1/0");
        CHECK.due("the last that is not BROKEN", x.asks(0, 0, 2), 7);
        CHECK.due("the last that is not BROKEN", x.asks(1, 0, 1), 0);
        Check.force(x, "strokes person*50+place*25+length*4+day*2+mood");
        CHECK.due("all words", x.asks(0, 0, 2), 25 + 4 + 6 + 4);
        CHECK.due("all words", x.asks(1, 0, 1), 50 + 16 + 6 + 4);
        Check.force(x, "steps 7; bars");
        CHECK.due("1 without", x.asks(1, 0, 1), 1);
    }

    private static void steps() {
        CHECK.part("steps");
        LetterQuay x = Check.quay(1, 2345);
        Check.force(x, "steps 10 if at = 0-1 and letter = 0-1 and new = 0-1; strokes 3; steps 20 if place = 1");
        CHECK.due("of(0, 2)", x.of(0, 2), 10);
        CHECK.due("of(1, 2)", x.of(1, 2), 20);
        CHECK.due("swap(0)", x.swap(0), 30);
        CHECK.due("of(0, 2)", x.of(0, 2), 20);
        CHECK.due("of(1, 2)", x.of(1, 2), 10);
        Check.force(x, "steps 5 + 10 * person if place = 0");
        CHECK.due("swap(0), as they stand ahead of it", x.swap(0), 15 + 1);
        CHECK.due("swap(0), as they stand ahead of it", x.swap(0), 5 + 1);
    }

    private static void bars() {
        CHECK.part("bars");
        LetterQuay x = Check.quay(1, 2345, 3);
        Check.force(x, "bars if person = 0; bars if 1/0 = 1; bars if length = 4; strokes 9; bars if at > 0-1");
        CHECK.due("of(0, 3)", x.of(0, 3), 1);
        CHECK.due("of(1, 3)", x.of(1, 3), 1);
        CHECK.due("of(2, 3)", x.of(2, 3), 0);
        CHECK.due("stroke(0, 0, 2)", x.stroke(0, 0, 2), -3);
        CHECK.due("stroke(2, 0, 2)", x.stroke(2, 0, 2), 9);
        CHECK.due("swap(0) of BARRED ones", x.swap(0), 2);
    }
}
