/** Promises 18 to 22: strokes, swaps, decrees, days, and what is undone. */
public final class ChangeTest {
    private static final Check CHECK = new Check();

    public static void main(String[] args) {
        stroke();
        swap();
        decree();
        pass();
        undo();
        undoForgets();
        CHECK.finish();
    }

    private static void stroke() {
        CHECK.part("18 stroke");
        LetterQuay x = Check.quay(2134, 3);
        CHECK.due("stroke(0, 0, 5)", x.stroke(0, 0, 5), 1);
        CHECK.due("of(0, 0)", x.of(0, 0), 5134);
        CHECK.due("stroke(0, 3, 1)", x.stroke(0, 3, 1), 1);
        CHECK.due("of(0, 0)", x.of(0, 0), 5131);
        Check.force(x, "strokes 10 * letter + new");
        CHECK.due("stroke(0, 2, 2) tells what it cost ahead of it", x.stroke(0, 2, 2), 32);
        CHECK.due("stroke(1, 0, 3): it is that one", x.stroke(1, 0, 3), -3);
        CHECK.due("stroke(1, 1, 3): not so many LETTERS", x.stroke(1, 1, 3), -3);
        CHECK.due("status()", x.status(), -3);
        CHECK.due("stroke(2, 0, 3)", x.stroke(2, 0, 3), -2);
        CHECK.due("stroke(-1, 0, 3)", x.stroke(-1, 0, 3), -2);
        CHECK.due("stroke(2, 4, 3)", x.stroke(2, 4, 3), -1);
        CHECK.due("stroke(2, -1, 3)", x.stroke(2, -1, 3), -1);
        CHECK.due("stroke(2, 0, 0)", x.stroke(2, 0, 0), -1);
        CHECK.due("stroke(2, 0, 6)", x.stroke(2, 0, 6), -1);
        CHECK.due("count(4)", x.count(4), 3);
        CHECK.due("of(1, 0)", x.of(1, 0), 3);
        Check.force(x, "bars if person = 1");
        CHECK.due("stroke(1, 0, 1) of one who is BARRED", x.stroke(1, 0, 1), -3);
        CHECK.due("stroke(0, 0, 1)", x.stroke(0, 0, 1), 1);
    }

    private static void swap() {
        CHECK.part("19 swap");
        LetterQuay x = Check.quay(1, 2, 3);
        CHECK.due("swap(1)", x.swap(1), 2);
        CHECK.due("at(1)", x.at(1), 2);
        CHECK.due("at(2)", x.at(2), 1);
        CHECK.due("of(1, 1)", x.of(1, 1), 2);
        CHECK.due("swap(2)", x.swap(2), -2);
        CHECK.due("swap(3)", x.swap(3), -2);
        CHECK.due("swap(-1)", x.swap(-1), -2);
        CHECK.due("swap(max)", x.swap(Integer.MAX_VALUE), -2);
        CHECK.due("swap(min)", x.swap(Integer.MIN_VALUE), -2);
        CHECK.due("count(7)", x.count(7), 5);
        CHECK.due("status()", x.status(), -2);
        CHECK.due("swap(0) on an empty quay", new LetterQuay().swap(0), -2);
        CHECK.due("swap(0) of one alone", Check.quay(1).swap(0), -2);
    }

    private static void decree() {
        CHECK.part("20 decree");
        LetterQuay x = new LetterQuay();
        CHECK.due("decree(0)", x.decree(0), 21345);
        CHECK.due("decree(1)", x.decree(1), 23145);
        CHECK.due("decree(2)", x.decree(2), 23415);
        CHECK.due("decree(3)", x.decree(3), 23451);
        CHECK.due("decree(4)", x.decree(4), -1);
        CHECK.due("decree(-1)", x.decree(-1), -1);
        CHECK.due("alphabet()", x.alphabet(), 23451);
        CHECK.due("count(6)", x.count(6), 2);
    }

    private static void pass() {
        CHECK.part("21 pass");
        LetterQuay x = new LetterQuay();
        CHECK.due("pass()", x.pass(), 1);
        CHECK.due("pass()", x.pass(), 2);
        x.terms(0, 998);
        CHECK.due("pass()", x.pass(), 999);
        CHECK.due("pass()", x.pass(), -3);
        CHECK.due("status()", x.status(), -3);
        CHECK.due("count(12)", x.count(12), 999);
        CHECK.due("undo()", x.undo(), 3);
        CHECK.due("count(12)", x.count(12), 998);
    }

    private static void undo() {
        CHECK.part("22 undo");
        LetterQuay x = Check.quay(2134, 3, 4);
        CHECK.due("undo()", x.undo(), -3);
        CHECK.due("status()", x.status(), -3);
        x.stroke(0, 1, 5);
        x.swap(1);
        x.decree(2);
        x.pass();
        Check.law(x, "bars; strokes 3");
        x.force(0);
        x.says(0, 1, 2);
        x.heard(0, 1);
        CHECK.due("count(4)", x.count(4), 4);
        CHECK.due("undo()", x.undo(), 3);
        CHECK.due("count(12)", x.count(12), 0);
        CHECK.due("undo()", x.undo(), 2);
        CHECK.due("alphabet()", x.alphabet(), 12345);
        CHECK.due("undo()", x.undo(), 1);
        CHECK.due("at(1)", x.at(1), 1);
        CHECK.due("undo() of a stroke of one who is BARRED now", x.undo(), 0);
        CHECK.due("of(0, 0)", x.of(0, 0), 2134);
        CHECK.due("undo()", x.undo(), -3);
        CHECK.due("what was said stays", x.whisper(1), 2);
        CHECK.due("what was heard stays", x.count(2), 1);
        CHECK.due("the LAW stays in FORCE", x.count(11), 0);
    }

    private static void undoForgets() {
        CHECK.part("22 undo, what it forgets");
        LetterQuay x = Check.quay(1, 2);
        x.decree(0);
        for (int n = 0; n < 16; n++) {
            x.pass();
        }
        CHECK.due("count(4)", x.count(4), 16);
        for (int n = 0; n < 16; n++) {
            CHECK.due("undo()", x.undo(), 3);
        }
        CHECK.due("a 17th undo()", x.undo(), -3);
        CHECK.due("alphabet()", x.alphabet(), 21345);
        int[] kinds = new int[18];
        for (int n = 0; n < kinds.length; n++) {
            kinds[n] = n % 3 == 0 ? 2 : n % 5 == 0 ? 1 : 3;
            int told = kinds[n] == 2 ? x.decree(n % 4) : kinds[n] == 1 ? x.swap(0) : x.pass();
            CHECK.so("deed " + n, told >= 0);
        }
        for (int n = kinds.length - 1; n >= 2; n--) {
            CHECK.due("undo() of deed " + n, x.undo(), kinds[n]);
        }
        CHECK.due("count(4) of the first two of 18", x.count(4), 0);
        CHECK.due("alphabet() behind the first of 18", x.alphabet(), 12345);
        CHECK.due("count(12) behind the second of 18", x.count(12), 1);
        x.pass();
        x.person(0);
        x.terms(9, 9);
        x.row();
        CHECK.due("count(4) behind REFUSED ones", x.count(4), 1);
        x.person(3);
        CHECK.due("count(4) behind person()", x.count(4), 0);
        x.pass();
        x.terms(2, 0);
        CHECK.due("count(4) behind terms()", x.count(4), 0);
        x.pass();
        Check.put(x, new byte[] {0, 0, 0, 0});
        x.row();
        CHECK.due("count(4) behind row()", x.count(4), 0);
        x.pass();
        x.image(0);
        CHECK.due("count(4) behind image()", x.count(4), 1);
        x.back(1);
        CHECK.due("count(4) behind a REFUSED back()", x.count(4), 1);
        x.back(0);
        CHECK.due("count(4) behind back()", x.count(4), 0);
    }
}
