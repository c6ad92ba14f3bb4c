/** Promises 33 to 36 at their edges: a part of its own for each sentence that names one. */
public final class EdgeWhisperTest {
    private static final Check CHECK = new Check();
    private static final int MIN = Integer.MIN_VALUE;
    private static final int MAX = Integer.MAX_VALUE;
    private static final long WHOLE = 1_000_000_000_000L;

    public static void main(String[] args) {
        whisperNone();
        whisperOfNobody();
        whisperToTheEnd();
        fromNone();
        fromOfNothingAndAll();
        clearestNone();
        clearestOfFew();
        clearestOfAllOrders();
        oneMoreInALaterOrder();
        fewerThanBefore();
        firstAsARow();
        clearestOfNoLetter();
        comesNone();
        comesOfNoStep();
        neverSlips();
        alwaysSlips();
        fewerThanK();
        eachPartIsCut();
        CHECK.finish();
    }

    private static void whisperNone() {
        CHECK.sentence(33, "A WHISPER of a LETTER: what it comes to. NONE.");
        LetterQuay x = Check.quay(1, 2);
        for (int bad : new int[] {0, 6, -1, MIN, MAX}) {
            CHECK.due("whisper(" + bad + ")", x.whisper(bad), -1);
        }
        CHECK.due("whisper(1)", x.whisper(1), 1);
        CHECK.due("whisper(5)", x.whisper(5), 5);
        CHECK.refusals(x, 0, 0, 0, 0, 0);
    }

    private static void whisperOfNobody() {
        CHECK.sentence(0, "A WHISPER: a LETTER is told to who is at PLACE 0");
        LetterQuay x = new LetterQuay();
        for (int letter = 1; letter <= 5; letter++) {
            CHECK.due("whisper(" + letter + ")", x.whisper(letter), letter);
            CHECK.due("from(" + letter + ")", x.from(letter), 1 << (letter - 1));
        }
    }

    private static void whisperToTheEnd() {
        CHECK.sentence(0, "who SAYS it on as told to the next one, .., to the end");
        LetterQuay x = new LetterQuay();
        for (int person = 0; person < 7; person++) {
            x.person(1);
            for (int letter = 1; letter <= 5; letter++) {
                x.says(person, letter, letter % 5 + 1);
            }
            CHECK.due("whisper(1) along " + (person + 1), x.whisper(1), (person + 1) % 5 + 1);
            CHECK.due("from(1) along " + (person + 1), x.from(1), 1 << (14 - person) % 5);
        }
        LetterQuay last = Check.quay(1, 2);
        last.says(1, 3, 4);
        CHECK.due("the last one says it on, too", last.whisper(3), 4);
        last.swap(0);
        last.says(0, 4, 5);
        CHECK.due("by PLACES", last.whisper(3), 5);
    }

    private static void fromNone() {
        CHECK.sentence(34, "FROM: LETTERS, as bits (1 for LETTER 1). NONE.");
        LetterQuay x = Check.quay(1, 2);
        for (int bad : new int[] {0, 6, -1, MIN, MAX}) {
            CHECK.due("from(" + bad + ")", x.from(bad), -1);
        }
        CHECK.due("from(1)", x.from(1), 1);
        CHECK.due("from(5)", x.from(5), 16);
        CHECK.refusals(x, 0, 0, 0, 0, 0);
    }

    private static void fromOfNothingAndAll() {
        CHECK.sentence(0, "FROM: LETTERS of which a LETTER comes at the end.");
        LetterQuay x = Check.quay(1, 2);
        for (int letter = 1; letter <= 5; letter++) {
            x.says(1, letter, 5);
        }
        CHECK.due("all", x.from(5), 31);
        for (int letter = 1; letter < 5; letter++) {
            CHECK.due("none", x.from(letter), 0);
        }
    }

    private static void clearestNone() {
        CHECK.sentence(35, "CLEAREST: how many LETTERS (i NONE), who is at PLACE i. NONE.");
        LetterQuay x = Check.quay(1, 2, 3);
        for (int bad : new int[] {3, 7, -2, MIN, MAX}) {
            CHECK.due("clearest(" + bad + ")", x.clearest(bad), -1);
        }
        for (int i = 0; i < 3; i++) {
            CHECK.due("clearest(" + i + ")", x.clearest(i), i);
        }
        CHECK.refusals(x, 0, 0, 0, 0, 0);
    }

    private static void clearestOfFew() {
        CHECK.sentence(35, "how many LETTERS (i NONE)");
        CHECK.due("of nobody", new LetterQuay().clearest(-1), 5);
        CHECK.due("PLACE 0 of nobody", new LetterQuay().clearest(0), -1);
        LetterQuay one = Check.quay(1);
        one.says(0, 1, 2);
        CHECK.due("of one", one.clearest(-1), 4);
        CHECK.due("PLACE 0 of one", one.clearest(0), 0);
        CHECK.due("PLACE 1 of one", one.clearest(1), -1);
    }

    private static void clearestOfAllOrders() {
        CHECK.sentence(0, "CLEAREST: of all orders of PEOPLE that by which the most LETTERS come to the end as they were");
        LetterQuay x = Check.quay(1, 1, 1, 1, 1, 1, 1);
        // 5 makes 1 of 2, 6 makes 2 of 1: 1 and 2 can never both come through.
        x.says(5, 2, 1);
        x.says(6, 1, 2);
        CHECK.due("clearest(NONE)", x.clearest(-1), 4);
        x.says(0, 1, 2);
        x.says(0, 2, 1);
        CHECK.due("clearest(NONE)", x.clearest(-1), 4);
        LetterQuay turn = Check.quay(1, 1, 1);
        // Of the six orders of (1 2), (1 3), (1 2 3) three leave all as it was; 0 1 2 is none of them.
        int[][] says = {{0, 1, 2}, {0, 2, 1}, {1, 1, 3}, {1, 3, 1}, {2, 1, 2}, {2, 2, 3}, {2, 3, 1}};
        for (int[] said : says) {
            turn.says(said[0], said[1], said[2]);
        }
        int[] row = {5, 0, 2, 1};
        for (int i = -1; i < 3; i++) {
            CHECK.due("clearest(" + i + ")", turn.clearest(i), row[i + 1]);
        }
    }

    /** By 0, 1, 2 three LETTERS come through, by 0, 2, 1 four: as many as are left apart at all. */
    private static void oneMoreInALaterOrder() {
        CHECK.sentence(0, "that by which the most LETTERS come to the end as they were");
        int[][][] rows = {
            {{1, 2, 2, 4, 5}, {1, 5, 3, 4, 5}, {1, 3, 3, 4, 5}},
            {{1, 1, 3, 4, 5}, {2, 5, 3, 4, 5}, {1, 2, 3, 4, 2}},
            {{1, 2, 3, 4, 4}, {1, 2, 3, 1, 5}, {1, 2, 3, 5, 5}},
            {{3, 2, 3, 4, 5}, {1, 2, 5, 4, 5}, {1, 2, 1, 4, 5}}};
        int[] due = {4, 0, 2, 1};
        for (int[][] row : rows) {
            LetterQuay x = Check.quay(1, 2, 3);
            for (int person = 0; person < 3; person++) {
                for (int letter = 1; letter <= 5; letter++) {
                    x.says(person, letter, row[person][letter - 1]);
                }
            }
            for (int i = -1; i < 3; i++) {
                CHECK.due("clearest(" + i + ")", x.clearest(i), due[i + 1]);
            }
        }
    }

    private static void fewerThanBefore() {
        CHECK.sentence(35, "CLEAREST: how many LETTERS (i NONE)");
        LetterQuay x = Check.quay(1, 2);
        for (int letter = 1; letter <= 5; letter++) {
            CHECK.due("clearest(NONE)", x.clearest(-1), letter == 1 ? 5 : 6 - letter);
            x.says(0, letter, 5);
        }
        CHECK.due("clearest(NONE) at last", x.clearest(-1), 1);
        CHECK.due("clearest(0)", x.clearest(0), 0);
        CHECK.due("clearest(1)", x.clearest(1), 1);
    }

    private static void firstAsARow() {
        CHECK.sentence(0, "the first as a row of PEOPLE");
        LetterQuay x = Check.quay(1, 1, 1, 1, 1, 1, 1);
        x.swap(0);
        x.swap(5);
        for (int i = 0; i < 7; i++) {
            CHECK.due("clearest(" + i + ")", x.clearest(i), i);
        }
        LetterQuay last = Check.quay(1, 1, 1, 1, 1, 1, 1);
        // 0 makes 5 of all LETTERS, 6 turns 4 and 5 about.
        for (int letter = 1; letter <= 5; letter++) {
            last.says(0, letter, 5);
        }
        last.says(6, 5, 4);
        last.says(6, 4, 5);
        // By 0 .. 6 all come to 4; that is one LETTER as it was, and no order has more.
        CHECK.due("clearest(NONE)", last.clearest(-1), 1);
        for (int i = 0; i < 7; i++) {
            CHECK.due("clearest(" + i + ")", last.clearest(i), i);
        }
    }

    private static void clearestOfNoLetter() {
        CHECK.sentence(35, "how many LETTERS (i NONE), who is at PLACE i");
        LetterQuay x = Check.quay(1, 1, 1, 1, 1, 1, 1);
        for (int person = 0; person < 7; person++) {
            for (int letter = 1; letter <= 5; letter++) {
                x.says(person, letter, letter % 5 + 1);
            }
        }
        CHECK.due("none comes to the end as it was", x.clearest(-1), 0);
        CHECK.due("clearest(0)", x.clearest(0), 0);
        CHECK.due("clearest(6)", x.clearest(6), 6);
    }

    private static void comesNone() {
        CHECK.sentence(36, "COMES, k 1 .. 20, n 0 .. 99. NONE.");
        LetterQuay x = new LetterQuay();
        for (int bad : new int[] {0, 21, -1, MIN, MAX}) {
            CHECK.due("comes(" + bad + ", 1)", x.comes(bad, 1), -1);
        }
        for (int bad : new int[] {-1, 100, MIN, MAX}) {
            CHECK.due("comes(1, " + bad + ")", x.comes(1, bad), -1);
        }
        CHECK.due("comes(20, 0)", x.comes(20, 0), WHOLE);
        CHECK.so("comes(20, 99)", x.comes(20, 99) > 0);
        CHECK.so("comes(1, 99)", x.comes(1, 99) > 0);
        CHECK.refusals(x, 0, 0, 0, 0, 0);
    }

    private static void comesOfNoStep() {
        CHECK.sentence(0, "COMES: the chance, of 1,000,000,000,000 parts, that a LETTER is not slipped at in n steps");
        LetterQuay x = new LetterQuay();
        for (int slip = 0; slip <= 10; slip++) {
            x.terms(1, slip);
            CHECK.due("comes(1, 0)", x.comes(1, 0), WHOLE);
            CHECK.due("comes(20, 0)", x.comes(20, 0), WHOLE);
            CHECK.due("comes(1, 1)", x.comes(1, 1), WHOLE / 10 * (10 - slip));
            CHECK.due("comes(2, 1)", x.comes(2, 1), WHOLE);
            CHECK.due("comes(2, 2)", x.comes(2, 2), WHOLE - WHOLE / 100 * slip * slip);
        }
    }

    private static void neverSlips() {
        CHECK.sentence(0, "in SLIP of ten each");
        LetterQuay x = new LetterQuay();
        x.terms(1, 0);
        CHECK.due("comes(1, 99)", x.comes(1, 99), WHOLE);
        CHECK.due("comes(20, 99)", x.comes(20, 99), WHOLE);
    }

    private static void alwaysSlips() {
        CHECK.sentence(0, "in SLIP of ten each");
        LetterQuay x = new LetterQuay();
        x.terms(1, 10);
        for (int k = 1; k <= 20; k++) {
            CHECK.due("comes(" + k + ", " + (k - 1) + ")", x.comes(k, k - 1), WHOLE);
            CHECK.due("comes(" + k + ", " + k + ")", x.comes(k, k), 0);
        }
    }

    private static void fewerThanK() {
        CHECK.sentence(0, "fewer than k slips being mended: that fewer than k of them slip");
        LetterQuay x = new LetterQuay();
        x.terms(1, 5);
        // Of ten tosses: 1, 10, 45, 120, 210, 252, .. of 1024 have 0, 1, 2 .. slips, and nothing has to be cut.
        int[] tosses = {1, 10, 45, 120, 210, 252, 210, 120, 45, 10, 1};
        long sum = 0;
        for (int k = 1; k <= 11; k++) {
            sum += tosses[k - 1] * (WHOLE / 1024);
            CHECK.due("comes(" + k + ", 10)", x.comes(k, 10), sum);
        }
        CHECK.due("comes(12, 10)", x.comes(12, 10), WHOLE);
    }

    private static void eachPartIsCut() {
        CHECK.sentence(0, "each part is cut");
        LetterQuay x = new LetterQuay();
        // 0.9 to the 13th is 0.2541865828329: what is below one part is gone, and stays so.
        CHECK.due("comes(1, 12)", x.comes(1, 12), 282429536481L);
        CHECK.due("comes(1, 13)", x.comes(1, 13), 254186582832L);
        CHECK.due("comes(1, 14)", x.comes(1, 14), 228767924548L);
        CHECK.due("comes(20, 99)", x.comes(20, 99), 998255635351L);
        x.terms(1, 3);
        CHECK.due("comes(3, 20)", x.comes(3, 20), 35483132287L);
        CHECK.due("comes(10, 40)", x.comes(10, 40), 195925423636L);
        x.terms(1, 9);
        CHECK.due("comes(1, 12)", x.comes(1, 12), 1);
        CHECK.due("comes(1, 13): less than one part", x.comes(1, 13), 0);
        x.terms(1, 5);
        CHECK.due("comes(20, 99)", x.comes(20, 99), 200);
    }
}
