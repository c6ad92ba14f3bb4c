/** Promises 9 to 12: the tape, a row of bytes, misprints. */
public final class TapeTest {
    private static final Check CHECK = new Check();

    public static void main(String[] args) {
        feedAndEnd();
        row();
        rowWithoutRoom();
        CHECK.finish();
    }

    private static void feedAndEnd() {
        CHECK.part("9 feed, 10 end");
        LetterQuay x = new LetterQuay();
        CHECK.due("end(1)", x.end(1), -1);
        CHECK.due("end(0)", x.end(0), 0);
        CHECK.due("end(-1)", x.end(-1), -1);
        for (int n = 1; n <= 20; n++) {
            CHECK.due("feed", x.feed(-1, 0, Integer.MIN_VALUE, Integer.MAX_VALUE, 5), 20 * n);
        }
        CHECK.due("feed beyond 400", x.feed(0, 0, 0, 0, 0), -1);
        CHECK.due("count(5)", x.count(5), 400);
        CHECK.due("end(401)", x.end(401), -1);
        CHECK.due("end(381)", x.end(381), 381);
        CHECK.due("feed beyond 400", x.feed(0, 0, 0, 0, 0), -1);
        CHECK.due("end(380)", x.end(380), 380);
        CHECK.due("feed to 400", x.feed(0, 0, 0, 0, 0), 400);
        CHECK.due("status()", x.status(), 0);
        CHECK.due("count(6)", x.count(6), 0);
    }

    private static void row() {
        CHECK.part("11 row, 12 misprints");
        LetterQuay x = new LetterQuay();
        CHECK.due("row() of nothing", x.row(), -6);
        CHECK.due("status()", x.status(), -6);
        CHECK.due("misprints()", x.misprints(), 0);
        x.pass();
        Check.put(x, new byte[] {1, 2, 3, 4, 5, 0, 0, 0, 0, 0, 0, 0, 6, 0, 0, 0, 1, 0, 2, 0, (byte) 129, 0, 0, 0, 3, 3});
        CHECK.due("row()", x.row(), 2);
        CHECK.due("misprints()", x.misprints(), 5);
        CHECK.due("count(5)", x.count(5), 0);
        CHECK.due("of(0, 0)", x.of(0, 0), 1234);
        CHECK.due("of(1, 0)", x.of(1, 0), 5);
        CHECK.due("at(1)", x.at(1), 1);
        CHECK.due("undo() of what was ahead of row()", x.undo(), -3);
        CHECK.due("row() of nothing", x.row(), -6);
        CHECK.due("misprints()", x.misprints(), 5);
        x.pass();
        Check.put(x, new byte[] {7});
        CHECK.due("row() of nobody", x.row(), 0);
        CHECK.due("status()", x.status(), 0);
        CHECK.due("misprints()", x.misprints(), 1);
        CHECK.due("count(4) behind a row() of nobody", x.count(4), 0);
    }

    private static void rowWithoutRoom() {
        CHECK.part("11 row without room");
        LetterQuay x = Check.quay(1, 2, 3, 4, 5);
        Check.put(x, new byte[] {1, 0, 0, 0, 2, 0, 0, 0, 3, 0, 0, 0, 4, 0, 0, 0});
        CHECK.due("row()", x.row(), 2);
        CHECK.due("misprints()", x.misprints(), 2);
        CHECK.due("count(0)", x.count(0), 7);
        CHECK.due("of(6, 0)", x.of(6, 0), 2);
    }
}
