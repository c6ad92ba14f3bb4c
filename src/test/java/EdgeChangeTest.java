/** Promises 18 to 22 at their edges: a part of its own for each sentence that names one. */
public final class EdgeChangeTest {
    private static final Check CHECK = new Check();
    private static final int MIN = Integer.MIN_VALUE;
    private static final int MAX = Integer.MAX_VALUE;

    public static void main(String[] args) {
        strokeOfNumbersThatCannotBe();
        strokeOfNobody();
        strokeThatCannotBe();
        strokeRefusalsInOrder();
        strokeOfEachLetter();
        strokeCostsAsItStands();
        swapOfNoPlace();
        swapOfLastPlace();
        swapOfNeighbours();
        swapCosts();
        decreeNumbers();
        decreeTwice();
        passToTheLastDay();
        undoNone();
        undoKinds();
        sixteenAreKept();
        seventeenUnlikeOnes();
        strokesUndoneOfEach();
        undoneOnesMakeRoom();
        undoOfOrders();
        nothingAheadOf();
        refusedOnesForgetNothing();
        otherCallsForgetNothing();
        CHECK.finish();
    }

    private static void strokeOfNumbersThatCannotBe() {
        CHECK.sentence(18, "-1 (which LETTER 0 .. 3, the LETTER)");
        LetterQuay x = Check.quay(1234, 2);
        for (int bad : new int[] {-1, 4, MIN, MAX}) {
            CHECK.due("stroke(0, " + bad + ", 5)", x.stroke(0, bad, 5), -1);
        }
        for (int bad : new int[] {0, 6, -1, MIN, MAX}) {
            CHECK.due("stroke(0, 0, " + bad + ")", x.stroke(0, 0, bad), -1);
        }
        CHECK.due("of(0, 0) stays", x.of(0, 0), 1234);
        CHECK.due("status()", x.status(), -1);
        CHECK.refusals(x, 9, 0, 0, 0, 0);
        CHECK.due("stroke(0, 0, 5)", x.stroke(0, 0, 5), 1);
        CHECK.due("stroke(0, 3, 1)", x.stroke(0, 3, 1), 1);
        CHECK.due("of(0, 0)", x.of(0, 0), 5231);
    }

    private static void strokeOfNobody() {
        CHECK.sentence(18, "-2;");
        LetterQuay x = Check.quay(1, 2);
        for (int bad : new int[] {-1, 2, 7, MIN, MAX}) {
            CHECK.due("stroke(" + bad + ", 0, 5)", x.stroke(bad, 0, 5), -2);
        }
        CHECK.due("stroke(1, 0, 5)", x.stroke(1, 0, 5), 1);
        CHECK.refusals(x, 0, 5, 0, 0, 0);
    }

    private static void strokeThatCannotBe() {
        CHECK.sentence(18, "-3 (not so many LETTERS, it is that one, too)");
        LetterQuay x = Check.quay(1, 12, 123, 1234);
        for (int person = 0; person < 4; person++) {
            for (int k = person + 1; k < 4; k++) {
                CHECK.due("stroke(" + person + ", " + k + ", 5)", x.stroke(person, k, 5), -3);
            }
            for (int k = 0; k <= person; k++) {
                CHECK.due("stroke(" + person + ", " + k + ", that one)", x.stroke(person, k, k + 1), -3);
            }
            CHECK.due("the last LETTER", x.stroke(person, person, 5), 1);
        }
        CHECK.refusals(x, 0, 0, 16, 0, 0);
        CHECK.due("count(4)", x.count(4), 4);
        Check.force(x, "bars if person = 0");
        CHECK.due("BARRED", x.stroke(0, 0, 2), -3);
        CHECK.due("of(0, 0) stays", x.of(0, 0), 5);
        CHECK.due("not BARRED", x.stroke(1, 0, 2), 1);
    }

    private static void strokeRefusalsInOrder() {
        CHECK.sentence(0, "The first of these in that order.");
        LetterQuay x = Check.quay(1, 2);
        Check.force(x, "bars");
        CHECK.due("no LETTER, nobody", x.stroke(2, 0, 6), -1);
        CHECK.due("no such LETTER of nobody", x.stroke(2, 4, 1), -1);
        CHECK.due("nobody", x.stroke(2, 0, 1), -2);
        CHECK.due("nobody, not so many LETTERS", x.stroke(2, 3, 1), -2);
        CHECK.due("no LETTER, BARRED", x.stroke(0, 0, 0), -1);
        CHECK.due("BARRED, not so many", x.stroke(0, 3, 1), -3);
        CHECK.due("BARRED", x.stroke(0, 0, 2), -3);
        CHECK.refusals(x, 3, 2, 2, 0, 0);
    }

    private static void strokeOfEachLetter() {
        CHECK.sentence(0, "A STROKE: one LETTER of a NAME of one who is not BARRED becomes another one.");
        for (int length = 1; length <= 4; length++) {
            for (int k = 0; k < length; k++) {
                LetterQuay x = Check.quay(Integer.parseInt("3333".substring(0, length)));
                x.stroke(0, k, 5);
                CHECK.due("of(0, 0)", x.of(0, 0), Integer.parseInt("3333".substring(0, k) + "5" + "3333".substring(k + 1, length)));
                x.undo();
                CHECK.due("of(0, 0) undone", x.of(0, 0), Integer.parseInt("3333".substring(0, length)));
            }
        }
    }

    private static void strokeCostsAsItStands() {
        CHECK.sentence(18, "A STROKE: what it costs.");
        LetterQuay x = Check.quay(12);
        Check.force(x, "strokes 10*letter+new; strokes 0 if new = 4; bars if 1 = 2");
        CHECK.due("stroke(0, 1, 3)", x.stroke(0, 1, 3), 23);
        CHECK.due("stroke(0, 1, 4) for nothing", x.stroke(0, 1, 4), 0);
        CHECK.due("status()", x.status(), 0);
        CHECK.due("it can be undone", x.undo(), 0);
    }

    private static void swapOfNoPlace() {
        CHECK.sentence(19, "-2 (there is no next one, too)");
        LetterQuay x = Check.quay(1, 2, 3);
        for (int bad : new int[] {-1, -2, 3, 7, MIN, MAX, MAX - 1}) {
            CHECK.due("swap(" + bad + ")", x.swap(bad), -2);
            CHECK.due("status()", x.status(), -2);
        }
        CHECK.refusals(x, 0, 7, 0, 0, 0);
        CHECK.due("count(4)", x.count(4), 0);
    }

    private static void swapOfLastPlace() {
        CHECK.sentence(19, "(there is no next one, too)");
        for (int people = 0; people <= 7; people++) {
            LetterQuay x = new LetterQuay();
            for (int n = 0; n < people; n++) {
                x.person(1);
            }
            CHECK.due("swap of the last of " + people, x.swap(people - 1), -2);
            CHECK.due("swap of the last but one of " + people, x.swap(people - 2), people >= 2 ? 2 : -2);
        }
    }

    private static void swapOfNeighbours() {
        CHECK.sentence(0, "To SWAP: those at a PLACE and at the next one.");
        for (int place = 0; place < 6; place++) {
            LetterQuay x = Check.quay(1, 1, 1, 1, 1, 1, 1);
            x.swap(place);
            for (int p = 0; p < 7; p++) {
                int who = p == place ? p + 1 : p == place + 1 ? p - 1 : p;
                CHECK.due("at(" + p + ") behind swap(" + place + ")", x.at(p), who);
                CHECK.due("of(" + who + ", 1) behind swap(" + place + ")", x.of(who, 1), p);
            }
        }
    }

    private static void swapCosts() {
        CHECK.sentence(19, "To SWAP: what the STEPS of both cost together.");
        LetterQuay x = Check.quay(1, 2, 3);
        Check.force(x, "steps 99 if person = 2; steps 0 if person = 1");
        CHECK.due("swap(0)", x.swap(0), 1);
        CHECK.due("swap(1)", x.swap(1), 100);
        Check.force(x, "steps 0");
        CHECK.due("swap(0) for nothing", x.swap(0), 0);
        CHECK.due("status()", x.status(), 0);
        Check.force(x, "steps 99");
        CHECK.due("the dearest", x.swap(0), 198);
    }

    private static void decreeNumbers() {
        CHECK.sentence(20, "A DECREE: the ALPHABET then. -1 (0 .. 3).");
        LetterQuay x = new LetterQuay();
        for (int bad : new int[] {-1, 4, 5, MIN, MAX}) {
            CHECK.due("decree(" + bad + ")", x.decree(bad), -1);
            CHECK.due("alphabet() stays", x.alphabet(), 12345);
        }
        CHECK.refusals(x, 5, 0, 0, 0, 0);
        int[] due = {21345, 13245, 12435, 12354};
        for (int k = 0; k < 4; k++) {
            CHECK.due("decree(" + k + ")", x.decree(k), due[k]);
            x.undo();
        }
    }

    private static void decreeTwice() {
        CHECK.sentence(0, "A DECREE: two LETTERS next to one another in the ALPHABET change.");
        LetterQuay x = Check.quay(1, 5);
        for (int k = 0; k < 4; k++) {
            x.decree(k);
            CHECK.due("decree(" + k + ") twice", x.decree(k), 12345);
        }
        for (int k = 3; k >= 0; k--) {
            x.decree(k);
        }
        CHECK.due("alphabet()", x.alphabet(), 51234);
        CHECK.due("ahead(0, 1)", x.ahead(0, 1), 2);
    }

    private static void passToTheLastDay() {
        CHECK.sentence(0, "A DAY passes (DAY below 999).");
        CHECK.sentence(21, "A DAY: its number. -3.");
        LetterQuay x = new LetterQuay();
        CHECK.due("the first", x.pass(), 1);
        x.terms(0, 997);
        CHECK.due("pass()", x.pass(), 998);
        CHECK.due("pass()", x.pass(), 999);
        CHECK.due("pass()", x.pass(), -3);
        CHECK.due("status()", x.status(), -3);
        CHECK.due("count(12)", x.count(12), 999);
        CHECK.due("count(4)", x.count(4), 2);
        CHECK.refusals(x, 0, 0, 1, 0, 0);
        x.undo();
        CHECK.due("behind undo()", x.pass(), 999);
    }

    private static void undoNone() {
        CHECK.sentence(22, "-3 there is none");
        LetterQuay x = Check.quay(1, 2);
        CHECK.due("undo()", x.undo(), -3);
        CHECK.due("status()", x.status(), -3);
        x.pass();
        CHECK.due("undo()", x.undo(), 3);
        CHECK.due("status()", x.status(), 0);
        CHECK.due("undo() is not undone", x.undo(), -3);
        CHECK.refusals(x, 0, 0, 2, 0, 0);
    }

    private static void undoKinds() {
        CHECK.sentence(22, "The latest stroke(), swap(), decree(), pass() (by ORDERS, too; 16 are kept) is undone: 0 .. 3.");
        LetterQuay x = Check.quay(1234, 2, 3);
        x.stroke(0, 2, 5);
        CHECK.due("a stroke", x.undo(), 0);
        CHECK.due("of(0, 0)", x.of(0, 0), 1234);
        x.swap(1);
        CHECK.due("a swap", x.undo(), 1);
        CHECK.due("at(1)", x.at(1), 1);
        CHECK.due("of(2, 1)", x.of(2, 1), 2);
        x.decree(3);
        CHECK.due("a decree", x.undo(), 2);
        CHECK.due("alphabet()", x.alphabet(), 12345);
        x.pass();
        CHECK.due("a DAY", x.undo(), 3);
        CHECK.due("count(12)", x.count(12), 0);
        x.stroke(0, 0, 5);
        x.stroke(0, 0, 4);
        x.stroke(0, 0, 1);
        int[] due = {4, 5, 1};
        for (int letter : due) {
            x.undo();
            CHECK.due("the first LETTER", x.of(0, 0), letter * 1000 + 234);
        }
    }

    private static void sixteenAreKept() {
        CHECK.sentence(22, "16 are kept");
        for (int changes = 14; changes <= 18; changes++) {
            LetterQuay x = new LetterQuay();
            for (int n = 0; n < changes; n++) {
                x.pass();
            }
            int kept = Math.min(changes, 16);
            CHECK.due("count(4) of " + changes, x.count(4), kept);
            for (int n = 0; n < kept; n++) {
                CHECK.due("undo()", x.undo(), 3);
            }
            CHECK.due("one more undo()", x.undo(), -3);
            CHECK.due("count(12)", x.count(12), changes - kept);
        }
    }

    /** One after another, with all that stands behind each, so that none that is kept may be mixed up. */
    private static void seventeenUnlikeOnes() {
        CHECK.sentence(22, "16 are kept");
        LetterQuay x = Check.quay(1234, 2, 3, 4, 5, 11, 22);
        int changes = 35;
        int[] kinds = new int[changes];
        String[] ahead = new String[changes];
        for (int n = 0; n < changes; n++) {
            ahead[n] = standing(x);
            kinds[n] = n * n % 7 % 4;
            int told = kinds[n] == 0 ? x.stroke(0, n % 4, x.of(0, 0) / POWERS[n % 4] % 10 % 5 + 1)
                : kinds[n] == 1 ? x.swap(n % 6) : kinds[n] == 2 ? x.decree(n % 4) : x.pass();
            CHECK.so("change " + n, told >= 0);
        }
        for (int n = changes - 1; n >= changes - 16; n--) {
            CHECK.due("undo() of change " + n, x.undo(), kinds[n]);
            CHECK.so("all is as it was ahead of change " + n, standing(x).equals(ahead[n]));
        }
        CHECK.due("one more undo()", x.undo(), -3);
    }

    private static final int[] POWERS = {1000, 100, 10, 1};

    private static String standing(LetterQuay x) {
        StringBuilder all = new StringBuilder().append(x.of(0, 0)).append(' ').append(x.alphabet()).append(' ').append(x.count(12));
        for (int place = 0; place < 7; place++) {
            all.append(' ').append(x.at(place));
        }
        return all.toString();
    }

    private static void strokesUndoneOfEach() {
        CHECK.sentence(22, "The latest stroke()");
        for (int person = 0; person < 7; person++) {
            for (int k = 0; k < 4; k++) {
                for (int letter = 1; letter <= 5; letter++) {
                    int name = 1111 * letter;
                    LetterQuay x = Check.quay(name, name, name, name, name, name, name);
                    x.stroke(person, k, letter % 5 + 1);
                    CHECK.due("of(" + person + ", 0)", x.of(person, 0), name + (letter % 5 + 1 - letter) * POWERS[k]);
                    CHECK.due("undo()", x.undo(), 0);
                    for (int one = 0; one < 7; one++) {
                        CHECK.due("of(" + one + ", 0) behind undo()", x.of(one, 0), name);
                    }
                }
            }
        }
    }

    private static void undoneOnesMakeRoom() {
        CHECK.sentence(22, "16 are kept");
        LetterQuay x = new LetterQuay();
        for (int n = 0; n < 17; n++) {
            x.pass();
        }
        x.undo();
        x.undo();
        x.decree(0);
        CHECK.due("count(4)", x.count(4), 15);
        CHECK.due("undo()", x.undo(), 2);
        for (int n = 0; n < 14; n++) {
            CHECK.due("undo()", x.undo(), 3);
        }
        CHECK.due("the first is gone", x.undo(), -3);
        CHECK.due("count(12)", x.count(12), 1);
    }

    private static void undoOfOrders() {
        CHECK.sentence(22, "(by ORDERS, too; 16 are kept)");
        LetterQuay x = Check.quay(1, 2);
        x.decree(1);
        Check.orders(x, "swap 0; stroke 0 at 0 to 3; pass if 1=2; pass times 2");
        int[] due = {3, 3, 0, 1, 2, -3};
        for (int kind : due) {
            CHECK.due("undo()", x.undo(), kind);
        }
        x.decree(1);
        Check.orders(x, "pass times 16");
        CHECK.due("count(4)", x.count(4), 16);
        for (int n = 0; n < 16; n++) {
            x.undo();
        }
        CHECK.due("the decree is gone", x.undo(), -3);
        CHECK.due("alphabet()", x.alphabet(), 13245);
    }

    private static void nothingAheadOf() {
        CHECK.sentence(22, "(nothing that was ahead of a person(), terms(), row() that was not REFUSED can be undone)");
        LetterQuay x = Check.quay(1, 2);
        x.pass();
        x.person(3);
        CHECK.due("behind person()", x.undo(), -3);
        x.pass();
        x.terms(2, 0);
        CHECK.due("behind terms() that changes nothing", x.undo(), -3);
        x.pass();
        Check.put(x, new byte[] {9});
        x.row();
        CHECK.due("behind row() of nobody", x.undo(), -3);
        x.swap(0);
        Check.put(x, new byte[] {1, 0, 0, 0});
        x.row();
        CHECK.due("behind row()", x.undo(), -3);
        x.decree(0);
        x.person(1);
        x.pass();
        CHECK.due("what came behind it", x.undo(), 3);
        CHECK.due("and no more", x.undo(), -3);
        CHECK.due("count(12)", x.count(12), 3);
    }

    private static void refusedOnesForgetNothing() {
        CHECK.sentence(22, "that was not REFUSED");
        LetterQuay x = Check.quay(1, 2, 3, 4, 5, 11, 22);
        x.pass();
        x.person(0);
        x.person(1);
        x.terms(0, 1000);
        x.terms(3, 0);
        x.row();
        x.back(0);
        x.back(2);
        x.stroke(0, 0, 1);
        x.swap(6);
        x.decree(4);
        CHECK.due("count(4)", x.count(4), 1);
        CHECK.due("undo()", x.undo(), 3);
    }

    private static void otherCallsForgetNothing() {
        CHECK.sentence(22, "nothing that was ahead of a person(), terms(), row()");
        LetterQuay x = Check.quay(1, 2);
        x.stroke(0, 0, 5);
        x.says(0, 1, 2);
        Check.force(x, "bars; strokes 9");
        x.heard(0, 1);
        x.forget();
        x.weeks(1, 9);
        x.image(0);
        x.feed(1, 2, 3, 4, 5);
        x.end(3);
        x.mend(0);
        x.clearest(0);
        CHECK.due("count(4)", x.count(4), 1);
        CHECK.due("undo() of one who is BARRED now", x.undo(), 0);
        CHECK.due("of(0, 0)", x.of(0, 0), 1);
    }
}
