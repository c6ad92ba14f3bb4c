import java.nio.charset.StandardCharsets;

/** Counts and prints answers that are not due; a test ends with exit code 1 if there was one. */
final class Check {
    private int wrong = 0;
    private int asked = 0;
    private String part = "";

    void part(String name) {
        part = name;
    }

    /** The sentence that the answers behind it stand for; the document must have it word by word. */
    void sentence(int promise, String quote) {
        part = (promise == Doc.TERMS ? "Terms" : "Promise " + promise) + " '" + quote + "'";
        so("the document says so", Doc.says(promise, quote));
    }

    void due(String call, long got, long want) {
        asked++;
        if (got != want) {
            wrong++;
            System.out.println(part + ": " + call + " answered " + got + ", due is " + want);
        }
    }

    void so(String what, boolean is) {
        due(what, is ? 1 : 0, 1);
    }

    void finish() {
        System.out.println(asked + " answers, " + wrong + " of them wrong");
        if (wrong != 0) {
            System.exit(1);
        }
    }

    /** What all REFUSED calls were counted as: count(6) to count(10). */
    void refusals(LetterQuay x, int... want) {
        for (int i = 0; i < want.length; i++) {
            due("count(" + (6 + i) + ")", x.count(6 + i), want[i]);
        }
    }

    static LetterQuay quay(int... names) {
        LetterQuay x = new LetterQuay();
        for (int name : names) {
            x.person(name);
        }
        return x;
    }

    /** Puts bytes behind an empty TAPE. */
    static void put(LetterQuay x, byte[] bytes) {
        x.end(0);
        int[] fours = new int[5];
        for (int start = 0; start < bytes.length; start += 20) {
            for (int f = 0; f < 5; f++) {
                fours[f] = 0;
                for (int k = 0; k < 4; k++) {
                    int at = start + 4 * f + k;
                    fours[f] = fours[f] << 8 | (at < bytes.length ? bytes[at] & 255 : 0);
                }
            }
            x.feed(fours[0], fours[1], fours[2], fours[3], fours[4]);
        }
        x.end(bytes.length);
    }

    static void put(LetterQuay x, String text) {
        put(x, text.getBytes(StandardCharsets.ISO_8859_1));
    }

    static int law(LetterQuay x, String text) {
        put(x, text);
        return x.law();
    }

    static int orders(LetterQuay x, String text) {
        put(x, text);
        return x.orders();
    }

    /** A LAW that is read and in FORCE. */
    static void force(LetterQuay x, String text) {
        x.force(law(x, text));
    }

    /** Ten decrees by which 12345 becomes 54321. */
    static void turnAbout(LetterQuay x) {
        for (int n = 0; n < 4; n++) {
            for (int k = 0; k < 4 - n; k++) {
                x.decree(k);
            }
        }
    }

    /** The s behind s, as Terms IV tell. */
    static int draw(int s) {
        return (int) ((s * 1103L + 12345) % 1_000_003);
    }

    /** A SEED by which the first three DRAWS of so many PEOPLE, of 4 and of 5 are these. */
    static int seedFor(int people, int who, int what, int letter) {
        for (int seed = 0; seed <= 1_000_000; seed++) {
            int one = draw(seed);
            int two = draw(one);
            if (one % people == who && two % 4 == what && draw(two) % 5 == letter) {
                return seed;
            }
        }
        throw new IllegalStateException();
    }
}
