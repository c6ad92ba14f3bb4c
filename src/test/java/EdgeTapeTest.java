/** Promises 9 to 12 and a ROW of bytes at their edges: a part of its own for each sentence that names one. */
public final class EdgeTapeTest {
    private static final Check CHECK = new Check();
    private static final int MIN = Integer.MIN_VALUE;
    private static final int MAX = Integer.MAX_VALUE;

    public static void main(String[] args) {
        fourHundredBytes();
        notTwenty();
        highestFirst();
        bytesBehindTheTape();
        end();
        endLeavesTheFirst();
        allBytes();
        zeroBehindAllOthers();
        noLetters();
        tapeEndsWithin();
        noRoom();
        emptyTape();
        tapeIsEmptyThen();
        misprintsAheadOfAny();
        misprintsOfTheLatest();
        wholeTape();
        CHECK.finish();
    }

    private static LetterQuay fed(int feeds) {
        LetterQuay x = new LetterQuay();
        for (int n = 0; n < feeds; n++) {
            x.feed(0x01000000, 0x02000000, 0x03000000, 0x04000000, 0x05000000);
        }
        return x;
    }

    private static void fourHundredBytes() {
        CHECK.sentence(0, "TEXTS are on a TAPE of at most 400 bytes.");
        LetterQuay x = fed(19);
        CHECK.due("the twentieth feed", x.feed(0, 0, 0, 0, 0), 400);
        CHECK.due("one more", x.feed(0, 0, 0, 0, 0), -1);
        CHECK.due("count(5)", x.count(5), 400);
        CHECK.due("status() knows nothing of it", x.status(), 0);
        CHECK.refusals(x, 0, 0, 0, 0, 0);
    }

    private static void notTwenty() {
        CHECK.sentence(9, "NONE, if there would be more than 400.");
        for (int length = 378; length <= 400; length++) {
            LetterQuay x = fed(20);
            x.end(length);
            CHECK.due("feed behind " + length, x.feed(0, 0, 0, 0, 0), length <= 380 ? length + 20 : -1);
            CHECK.due("count(5)", x.count(5), length <= 380 ? length + 20 : length);
        }
    }

    private static void highestFirst() {
        CHECK.sentence(9, "four of each number, the highest first: how many it has.");
        LetterQuay x = new LetterQuay();
        CHECK.due("feed", x.feed(0x01020304, 0x05040302, 0x05000000, 0x03030000, 0x00000005), 20);
        CHECK.due("row()", x.row(), 4);
        int[] names = {1234, 5432, 5, 33};
        for (int person = 0; person < names.length; person++) {
            CHECK.due("of(" + person + ", 0)", x.of(person, 0), names[person]);
        }
        CHECK.due("misprints(): the last four begin with 0", x.misprints(), 1);
    }

    /** Numbers below 0 have a highest byte of 128 and more, which no bytes below it may change. */
    private static void bytesBehindTheTape() {
        CHECK.sentence(9, "Twenty bytes come behind the TAPE");
        LetterQuay x = new LetterQuay();
        CHECK.due("feed", x.feed(-1, MIN, MAX, 0x81000000, 0x01000000), 20);
        CHECK.due("feed", x.feed(0x02000000, 0xff000000, 0x010000ff, 0x0100ff00, 0x01ff0000), 40);
        CHECK.due("row()", x.row(), 2);
        CHECK.due("misprints()", x.misprints(), 8);
        CHECK.due("of(0, 0)", x.of(0, 0), 1);
        CHECK.due("of(1, 0)", x.of(1, 0), 2);
    }

    private static void end() {
        CHECK.sentence(10, "NONE, if it has not so many, or n is below 0.");
        LetterQuay x = fed(1);
        for (int bad : new int[] {21, -1, 400, MIN, MAX}) {
            CHECK.due("end(" + bad + ")", x.end(bad), -1);
            CHECK.due("count(5) stays", x.count(5), 20);
        }
        CHECK.due("end(20)", x.end(20), 20);
        CHECK.due("end(19)", x.end(19), 19);
        CHECK.due("end(20): it has not so many any more", x.end(20), -1);
        CHECK.due("end(0)", x.end(0), 0);
        CHECK.due("end(0) of an empty one", x.end(0), 0);
        CHECK.due("end(1) of an empty one", x.end(1), -1);
        CHECK.refusals(x, 0, 0, 0, 0, 0);
    }

    private static void endLeavesTheFirst() {
        CHECK.sentence(10, "The TAPE has its first n bytes alone: n.");
        LetterQuay x = fed(1);
        x.end(6);
        x.feed(0x00000300, 0, 0, 0, 0);
        // The bytes are now 1 0 0 0, 2 0 0 0, 3 0 and zeros.
        CHECK.due("row()", x.row(), 3);
        CHECK.due("of(2, 0)", x.of(2, 0), 3);
        CHECK.due("misprints()", x.misprints(), 4);
    }

    /** Each byte by itself at each place of a NAME whose other LETTERS are 1. */
    private static void allBytes() {
        CHECK.sentence(0, "A ROW of bytes: the TAPE's bytes by fours: LETTERS of a NAME, 0 .. 5, 0 only behind all others: a PERSON");
        for (int k = 0; k < 4; k++) {
            for (int value = 0; value < 256; value++) {
                LetterQuay x = new LetterQuay();
                byte[] four = {1, 1, 1, 1};
                four[k] = (byte) value;
                Check.put(x, four);
                boolean fits = value >= 1 && value <= 5 || value == 0 && k == 3;
                CHECK.due("row() with " + value + " at " + k, x.row(), fits ? 1 : 0);
                CHECK.due("misprints()", x.misprints(), fits ? 0 : 1);
            }
        }
    }

    private static void zeroBehindAllOthers() {
        CHECK.sentence(0, "0 only behind all others");
        byte[][] fours = {{1, 0, 0, 0}, {1, 2, 0, 0}, {1, 2, 3, 0}, {1, 2, 3, 4}, {0, 1, 0, 0}, {1, 0, 2, 0}, {1, 2, 0, 3}, {1, 0, 0, 2}, {0, 0, 0, 1}};
        int[] names = {1, 12, 123, 1234, -1, -1, -1, -1, -1};
        for (int i = 0; i < fours.length; i++) {
            LetterQuay x = new LetterQuay();
            Check.put(x, fours[i]);
            CHECK.due("row() " + i, x.row(), names[i] < 0 ? 0 : 1);
            CHECK.due("of(0, 0) " + i, x.of(0, 0), names[i]);
            CHECK.due("misprints() " + i, x.misprints(), names[i] < 0 ? 1 : 0);
        }
    }

    private static void noLetters() {
        CHECK.sentence(0, "one that can't be (no LETTERS, too)");
        LetterQuay x = new LetterQuay();
        Check.put(x, new byte[] {0, 0, 0, 0, 6, 0, 0, 0, 5, 0, 0, 0, 0, 0, 0, 0});
        CHECK.due("row()", x.row(), 1);
        CHECK.due("misprints()", x.misprints(), 3);
        CHECK.due("of(0, 0)", x.of(0, 0), 5);
        CHECK.due("at(1)", x.at(1), -1);
    }

    private static void tapeEndsWithin() {
        CHECK.sentence(0, "one within which the TAPE ends");
        for (int length = 1; length <= 8; length++) {
            LetterQuay x = new LetterQuay();
            x.feed(0x01020304, 0x01020304, 0, 0, 0);
            x.end(length);
            CHECK.due("row() of " + length, x.row(), length / 4);
            CHECK.due("misprints() of " + length, x.misprints(), length % 4 == 0 ? 0 : 1);
        }
        LetterQuay zeros = new LetterQuay();
        Check.put(zeros, new byte[] {1, 0, 0});
        CHECK.due("row() of a NAME and too few zeros", zeros.row(), 0);
        CHECK.due("misprints()", zeros.misprints(), 1);
    }

    private static void noRoom() {
        CHECK.sentence(0, "one for which there is no room is a MISPRINT: nobody.");
        LetterQuay x = Check.quay(1, 1, 1, 1, 1);
        Check.put(x, new byte[] {6, 0, 0, 0, 2, 0, 0, 0, 3, 0, 0, 0, 4, 0, 0, 0, 5, 0, 0, 0, 6, 0, 0, 0});
        CHECK.due("row()", x.row(), 2);
        CHECK.due("misprints()", x.misprints(), 4);
        CHECK.due("of(6, 0)", x.of(6, 0), 3);
        CHECK.due("count(0)", x.count(0), 7);
        Check.put(x, new byte[] {2, 0, 0, 0});
        CHECK.due("row() of a full quay is not REFUSED", x.row(), 0);
        CHECK.due("status()", x.status(), 0);
        CHECK.due("misprints()", x.misprints(), 1);
        CHECK.refusals(x, 0, 0, 0, 0, 0);
    }

    private static void emptyTape() {
        CHECK.sentence(11, "-6 the TAPE is empty.");
        LetterQuay x = Check.quay(1);
        x.pass();
        CHECK.due("row()", x.row(), -6);
        CHECK.due("status()", x.status(), -6);
        CHECK.refusals(x, 0, 0, 0, 0, 1);
        CHECK.due("count(4) stays", x.count(4), 1);
        x.feed(0, 0, 0, 0, 0);
        x.end(0);
        CHECK.due("row() of one that end() has emptied", x.row(), -6);
        x.feed(0, 0, 0, 0, 0);
        x.end(1);
        CHECK.due("row() of one byte", x.row(), 0);
        CHECK.due("status()", x.status(), 0);
    }

    private static void tapeIsEmptyThen() {
        CHECK.sentence(11, "A ROW of bytes, the TAPE is empty then: how many PEOPLE came.");
        LetterQuay x = fed(1);
        CHECK.due("row()", x.row(), 5);
        CHECK.due("count(5)", x.count(5), 0);
        CHECK.due("row()", x.row(), -6);
        CHECK.due("count(0)", x.count(0), 5);
        x.feed(0x09090909, 0, 0, 0, 0);
        CHECK.due("row() of nobody", x.row(), 0);
        CHECK.due("count(5)", x.count(5), 0);
    }

    private static void misprintsAheadOfAny() {
        CHECK.sentence(12, "(0 ahead of any)");
        LetterQuay x = new LetterQuay();
        CHECK.due("misprints()", x.misprints(), 0);
        x.row();
        CHECK.due("misprints() behind a REFUSED one", x.misprints(), 0);
    }

    private static void misprintsOfTheLatest() {
        CHECK.sentence(12, "How many MISPRINTS the latest row() had that was not REFUSED");
        LetterQuay x = new LetterQuay();
        Check.put(x, new byte[] {6, 6});
        x.row();
        CHECK.due("misprints()", x.misprints(), 1);
        x.row();
        CHECK.due("misprints() behind a REFUSED one", x.misprints(), 1);
        Check.law(x, "bars");
        Check.orders(x, "pas");
        CHECK.due("misprints() behind law(), orders()", x.misprints(), 1);
        Check.put(x, new byte[] {1, 0, 0, 0});
        x.row();
        CHECK.due("misprints() of the latest alone", x.misprints(), 0);
    }

    private static void wholeTape() {
        CHECK.sentence(12, "How many MISPRINTS the latest row() had");
        LetterQuay x = fed(20);
        CHECK.due("row() of a hundred", x.row(), 7);
        CHECK.due("misprints()", x.misprints(), 93);
        x = fed(20);
        x.end(397);
        CHECK.due("row() of 99 and one byte", x.row(), 7);
        CHECK.due("misprints()", x.misprints(), 93);
    }
}
