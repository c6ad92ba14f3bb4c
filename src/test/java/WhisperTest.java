import java.math.BigInteger;

/** Promises 33 to 36: what a letter comes to, of which it came, the clearest row, how likely one comes through. */
public final class WhisperTest {
    private static final Check CHECK = new Check();

    public static void main(String[] args) {
        whisper();
        clearest();
        comes();
        comesIsNearTheExactChance();
        CHECK.finish();
    }

    private static void whisper() {
        CHECK.part("33 whisper, 34 from");
        LetterQuay x = Check.quay(1, 2);
        x.says(0, 1, 2);
        x.says(1, 2, 3);
        x.says(1, 1, 5);
        CHECK.due("whisper(1)", x.whisper(1), 3);
        CHECK.due("whisper(2)", x.whisper(2), 3);
        CHECK.due("whisper(3)", x.whisper(3), 3);
        CHECK.due("whisper(4)", x.whisper(4), 4);
        CHECK.due("whisper(0)", x.whisper(0), -1);
        CHECK.due("whisper(6)", x.whisper(6), -1);
        CHECK.due("from(3)", x.from(3), 7);
        CHECK.due("from(4)", x.from(4), 8);
        CHECK.due("from(5)", x.from(5), 16);
        CHECK.due("from(1)", x.from(1), 0);
        CHECK.due("from(0)", x.from(0), -1);
        CHECK.due("from(6)", x.from(6), -1);
        x.swap(0);
        CHECK.due("whisper(1) by PLACES", x.whisper(1), 5);
        CHECK.due("from(5) by PLACES", x.from(5), 17);
        LetterQuay nobody = new LetterQuay();
        for (int letter = 1; letter <= 5; letter++) {
            CHECK.due("whisper of nobody", nobody.whisper(letter), letter);
            CHECK.due("from of nobody", nobody.from(letter), 1 << (letter - 1));
        }
    }

    private static void clearest() {
        CHECK.part("35 clearest");
        LetterQuay x = Check.quay(1, 2, 3);
        CHECK.due("clearest(NONE)", x.clearest(-1), 5);
        CHECK.due("clearest(2)", x.clearest(2), 2);
        CHECK.due("clearest(3)", x.clearest(3), -1);
        CHECK.due("clearest(-2)", x.clearest(-2), -1);
        x.says(0, 1, 2);
        x.says(0, 2, 1);
        x.says(1, 1, 2);
        x.says(1, 2, 1);
        CHECK.due("clearest(NONE): both turn it, and it is as it was", x.clearest(-1), 5);
        x.says(1, 2, 2);
        // 0 then 1: 1 becomes 2, 2; 2 becomes 1, 2: 2 as it was. 1 then 0: 1, 2 become 2, then 1: 1 as it was.
        CHECK.due("clearest(NONE)", x.clearest(-1), 4);
        CHECK.due("clearest(0): the first of many", x.clearest(0), 0);
        CHECK.due("clearest(1)", x.clearest(1), 1);
        LetterQuay turn = Check.quay(1, 2, 3);
        turn.says(0, 1, 2);
        turn.says(0, 2, 1);
        turn.says(1, 1, 3);
        turn.says(1, 3, 1);
        turn.says(2, 1, 2);
        turn.says(2, 2, 3);
        turn.says(2, 3, 1);
        // By 0, 1, 2 the LETTERS 1, 2, 3 come to 3, 1, 2; by 0, 2, 1 each comes to itself.
        CHECK.due("whisper(1)", turn.whisper(1), 3);
        CHECK.due("clearest(NONE)", turn.clearest(-1), 5);
        CHECK.due("clearest(0)", turn.clearest(0), 0);
        CHECK.due("clearest(1)", turn.clearest(1), 2);
        CHECK.due("clearest(2)", turn.clearest(2), 1);
        turn.swap(0);
        CHECK.due("clearest(0) knows nothing of the ROW", turn.clearest(0), 0);
        LetterQuay lost = Check.quay(1, 2);
        for (int letter = 1; letter <= 5; letter++) {
            lost.says(0, letter, 4);
            lost.says(1, letter, 5);
        }
        CHECK.due("clearest(NONE): one alone", lost.clearest(-1), 1);
        CHECK.due("clearest(0)", lost.clearest(0), 0);
        LetterQuay all = Check.quay(1, 1, 1, 1, 1, 1, 1);
        for (int person = 0; person < 7; person++) {
            for (int letter = 1; letter <= 5; letter++) {
                all.says(person, letter, letter % 5 + 1);
            }
        }
        CHECK.due("clearest(NONE): none", all.clearest(-1), 0);
        CHECK.due("clearest(6)", all.clearest(6), 6);
        CHECK.due("clearest(NONE) of nobody", new LetterQuay().clearest(-1), 5);
        CHECK.due("clearest(0) of nobody", new LetterQuay().clearest(0), -1);
    }

    private static void comes() {
        CHECK.part("36 comes");
        LetterQuay x = new LetterQuay();
        CHECK.due("comes(1, 0)", x.comes(1, 0), 1000000000000L);
        CHECK.due("comes(1, 1)", x.comes(1, 1), 900000000000L);
        CHECK.due("comes(1, 2)", x.comes(1, 2), 810000000000L);
        CHECK.due("comes(2, 2)", x.comes(2, 2), 990000000000L);
        CHECK.due("comes(3, 2)", x.comes(3, 2), 1000000000000L);
        CHECK.due("comes(2, 3)", x.comes(2, 3), 972000000000L);
        // 0.9 to the 13th is 0.2541865828329: the last 9 is cut.
        CHECK.due("comes(1, 12)", x.comes(1, 12), 282429536481L);
        CHECK.due("comes(1, 13)", x.comes(1, 13), 254186582832L);
        CHECK.due("comes(1, 14): what was cut is gone", x.comes(1, 14), 228767924548L);
        x.terms(1, 0);
        CHECK.due("comes(1, 99) without slips", x.comes(1, 99), 1000000000000L);
        x.terms(1, 10);
        CHECK.due("comes(1, 1) of nothing but slips", x.comes(1, 1), 0);
        CHECK.due("comes(20, 19)", x.comes(20, 19), 1000000000000L);
        CHECK.due("comes(20, 20)", x.comes(20, 20), 0);
        CHECK.due("comes(0, 1)", x.comes(0, 1), -1);
        CHECK.due("comes(21, 1)", x.comes(21, 1), -1);
        CHECK.due("comes(1, -1)", x.comes(1, -1), -1);
        CHECK.due("comes(1, 100)", x.comes(1, 100), -1);
    }

    /** Each of n steps cuts at most one part of each of two products for each of k counts of slips. */
    private static void comesIsNearTheExactChance() {
        CHECK.part("36 comes, against the exact chance");
        LetterQuay x = new LetterQuay();
        for (int slip = 0; slip <= 10; slip++) {
            x.terms(1, slip);
            for (int k = 1; k <= 20; k += 3) {
                for (int n = 0; n <= 99; n += 11) {
                    long got = x.comes(k, n);
                    long exact = exactly(k, n, slip);
                    CHECK.so("comes(" + k + ", " + n + ") at SLIP " + slip, got <= exact && got >= exact - 2L * k * n);
                }
            }
        }
    }

    private static long exactly(int k, int n, int slip) {
        BigInteger sum = BigInteger.ZERO;
        BigInteger choose = BigInteger.ONE;
        for (int j = 0; j < k && j <= n; j++) {
            sum = sum.add(choose.multiply(BigInteger.valueOf(slip).pow(j)).multiply(BigInteger.valueOf(10 - slip).pow(n - j)));
            choose = choose.multiply(BigInteger.valueOf(n - j)).divide(BigInteger.valueOf(j + 1));
        }
        return sum.multiply(BigInteger.TEN.pow(12)).divide(BigInteger.TEN.pow(n)).longValueExact();
    }
}
