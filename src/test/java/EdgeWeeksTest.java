/** Promises 38 and 39 at their edges: a part of its own for each sentence that names one. */
public final class EdgeWeeksTest {
    private static final Check CHECK = new Check();
    private static final int MIN = Integer.MIN_VALUE;
    private static final int MAX = Integer.MAX_VALUE;

    public static void main(String[] args) {
        numbersThatCannotBe();
        firstAndLastNumbers();
        nobody();
        draws();
        lastDay();
        oneAlone();
        noNextOne();
        anotherLetterAlone();
        notBarred();
        nothing();
        onPaper();
        howOftenRight();
        drawnNone();
        drawnAheadOfAny();
        drawnBehindTheLatest();
        CHECK.finish();
    }

    private static void numbersThatCannotBe() {
        CHECK.sentence(0, "WEEKS with a SEED, n 1 .. 60, on paper: s is the SEED (0 .. 1,000,000)");
        LetterQuay x = Check.quay(2, 1);
        x.weeks(0, 1);
        int place = x.drawn(0, 1);
        for (int bad : new int[] {-1, 1_000_001, 1_000_003, MIN, MAX}) {
            CHECK.due("weeks(" + bad + ", 1)", x.weeks(bad, 1), -1);
        }
        for (int bad : new int[] {0, 61, -1, MIN, MAX}) {
            CHECK.due("weeks(5, " + bad + ")", x.weeks(5, bad), -1);
            CHECK.due("status()", x.status(), -1);
        }
        CHECK.refusals(x, 10, 0, 0, 0, 0);
        CHECK.due("drawn(0, 1) stays", x.drawn(0, 1), place);
    }

    private static void firstAndLastNumbers() {
        CHECK.sentence(0, "n 1 .. 60");
        LetterQuay x = Check.quay(1);
        CHECK.due("weeks(0, 1)", x.weeks(0, 1), 1);
        CHECK.due("weeks(0, 60)", x.weeks(0, 60), 60);
        CHECK.due("weeks(1000000, 1)", x.weeks(1_000_000, 1), 1);
        CHECK.due("weeks(1000000, 60)", x.weeks(1_000_000, 60), 60);
        CHECK.refusals(x, 0, 0, 0, 0, 0);
    }

    private static void nobody() {
        CHECK.sentence(38, "-1; -3 there is nobody.");
        LetterQuay x = new LetterQuay();
        CHECK.due("weeks(0, 1)", x.weeks(0, 1), -3);
        CHECK.due("status()", x.status(), -3);
        CHECK.due("weeks(-1, 1): -1 comes first", x.weeks(-1, 1), -1);
        CHECK.due("weeks(0, 0): -1 comes first", x.weeks(0, 0), -1);
        CHECK.due("weeks(0, 61): -1 comes first", x.weeks(0, 61), -1);
        CHECK.refusals(x, 3, 0, 1, 0, 0);
        CHECK.due("drawn(0, 0)", x.drawn(0, 0), -1);
    }

    /** The rules of Terms IV for seven once more, over all 60 weeks, from the lowest, the highest and other SEEDS. */
    private static void draws() {
        CHECK.sentence(0, "a DRAW of m: s becomes (s times 1103 and 12345) modulo 1,000,003, it is s modulo m");
        for (int seed : new int[] {0, 1, 997, 12345, 999_999, 1_000_000}) {
            int[] names = {1, 2, 3, 4, 5, 11, 12};
            int[] row = {0, 1, 2, 3, 4, 5, 6};
            LetterQuay x = Check.quay(names);
            x.weeks(seed, 60);
            int s = seed;
            for (int time = 0; time < 60; time++) {
                s = Check.draw(s);
                int who = s % 7;
                s = Check.draw(s);
                int what = s % 4;
                s = Check.draw(s);
                if (what <= 1 && who < 6) {
                    int one = row[who];
                    row[who] = row[who + 1];
                    row[who + 1] = one;
                } else if (what == 2) {
                    names[who] = names[who] > 9 ? (s % 5 + 1) * 10 + names[who] % 10 : s % 5 + 1;
                }
            }
            for (int place = 0; place < 7; place++) {
                CHECK.due("drawn(" + row[place] + ", 1) of SEED " + seed, x.drawn(row[place], 1), place);
                CHECK.due("drawn(" + place + ", 0) of SEED " + seed, x.drawn(place, 0), names[place]);
            }
        }
    }

    private static void lastDay() {
        CHECK.sentence(0, "Each time (at DAY 999 it ends)");
        for (int day = 996; day <= 999; day++) {
            LetterQuay x = Check.quay(1, 1, 1);
            x.terms(0, day);
            CHECK.due("weeks(5, 60) from DAY " + day, x.weeks(5, 60), 999 - day);
            CHECK.due("weeks(5, 2) from DAY " + day, x.weeks(5, 2), Math.min(2, 999 - day));
            CHECK.due("count(12) stays", x.count(12), day);
        }
        LetterQuay x = Check.quay(2, 1);
        x.terms(0, 999);
        int exchange = Check.seedFor(2, 0, 0, 0);
        CHECK.due("nothing is drawn at DAY 999", x.weeks(exchange, 60), 0);
        CHECK.due("status()", x.status(), 0);
        CHECK.due("it is the latest all the same", x.drawn(0, 1), 0);
        CHECK.due("drawn(0, 0)", x.drawn(0, 0), 2);
        x.terms(0, 998);
        CHECK.due("one time at DAY 998", x.weeks(exchange, 60), 1);
        CHECK.due("drawn(0, 1)", x.drawn(0, 1), 1);
    }

    private static void oneAlone() {
        CHECK.sentence(0, "DRAWS of PEOPLE, of 4, of 5");
        LetterQuay x = Check.quay(1234);
        x.weeks(Check.seedFor(1, 0, 0, 0), 1);
        CHECK.due("no exchange of one", x.drawn(0, 1), 0);
        x.weeks(Check.seedFor(1, 0, 2, 4), 1);
        CHECK.due("drawn(0, 0)", x.drawn(0, 0), 5234);
    }

    private static void noNextOne() {
        CHECK.sentence(0, "at 0, 1 the one at that PLACE and the next one SWAP, if there is one");
        LetterQuay x = Check.quay(1, 2, 3);
        for (int what = 0; what <= 1; what++) {
            for (int who = 0; who < 3; who++) {
                x.weeks(Check.seedFor(3, who, what, 0), 1);
                for (int person = 0; person < 3; person++) {
                    int place = who == 2 || person != who && person != who + 1 ? person : 2 * who + 1 - person;
                    CHECK.due("drawn(" + person + ", 1) of " + who + ", " + what, x.drawn(person, 1), place);
                }
            }
        }
    }

    private static void anotherLetterAlone() {
        CHECK.sentence(0, "at 2 the first LETTER of that PERSON's NAME becomes that DRAWN of 5 and 1, if it can be (not BARRED, another one)");
        LetterQuay x = Check.quay(1234, 5, 55);
        int[][] due = {{1234, 2234, 3234, 4234, 5234}, {1, 2, 3, 4, 5}, {15, 25, 35, 45, 55}};
        for (int who = 0; who < 3; who++) {
            for (int letter = 0; letter < 5; letter++) {
                x.weeks(Check.seedFor(3, who, 2, letter), 1);
                CHECK.due("drawn(" + who + ", 0) by " + letter, x.drawn(who, 0), due[who][letter]);
                CHECK.due("another one stays", x.drawn((who + 1) % 3, 0), x.of((who + 1) % 3, 0));
            }
        }
    }

    private static void notBarred() {
        CHECK.sentence(0, "if it can be (not BARRED, another one)");
        LetterQuay x = Check.quay(1, 2, 3);
        int seed = Check.seedFor(3, 1, 2, 4);
        Check.force(x, "bars if person = 1");
        x.weeks(seed, 1);
        CHECK.due("BARRED", x.drawn(1, 0), 2);
        Check.force(x, "bars if not person = 1");
        x.weeks(seed, 1);
        CHECK.due("not BARRED", x.drawn(1, 0), 5);
        Check.force(x, "bars if day > 0");
        x.weeks(seed, 1);
        CHECK.due("by the DAY ahead of its passing", x.drawn(1, 0), 5);
        x.pass();
        x.weeks(seed, 1);
        CHECK.due("BARRED by the DAY", x.drawn(1, 0), 2);
        Check.force(x, "bars");
        x.weeks(3, 60);
        CHECK.due("BARRED ones may be exchanged, their NAMES stay", x.drawn(0, 0) * 100 + x.drawn(1, 0) * 10 + x.drawn(2, 0), 123);
    }

    private static void nothing() {
        CHECK.sentence(0, "at 3 nothing; then the DAY passes");
        LetterQuay x = Check.quay(1, 2, 3);
        for (int who = 0; who < 3; who++) {
            CHECK.due("weeks(seed, 1)", x.weeks(Check.seedFor(3, who, 3, 4), 1), 1);
            for (int person = 0; person < 3; person++) {
                CHECK.due("drawn(" + person + ", 0)", x.drawn(person, 0), person + 1);
                CHECK.due("drawn(" + person + ", 1)", x.drawn(person, 1), person);
            }
        }
    }

    private static void onPaper() {
        CHECK.sentence(0, "on paper");
        LetterQuay x = Check.quay(1, 2, 3);
        x.pass();
        x.weeks(3, 60);
        for (int person = 0; person < 3; person++) {
            CHECK.due("of(" + person + ", 0)", x.of(person, 0), person + 1);
            CHECK.due("at(" + person + ")", x.at(person), person);
        }
        CHECK.due("count(12)", x.count(12), 1);
        CHECK.due("count(4)", x.count(4), 1);
        CHECK.due("alphabet()", x.alphabet(), 12345);
    }

    private static void howOftenRight() {
        CHECK.sentence(38, "WEEKS, kept as the latest: how often the ROW was RIGHT behind a DAY.");
        LetterQuay x = Check.quay(1, 2);
        int exchange = Check.seedFor(2, 0, 1, 0);
        CHECK.due("no more RIGHT", x.weeks(exchange, 1), 0);
        x.swap(0);
        CHECK.due("RIGHT then", x.weeks(exchange, 1), 1);
        CHECK.due("it begins anew each time", x.weeks(exchange, 1), 1);
        x.decree(0);
        CHECK.due("by the ALPHABET", x.weeks(exchange, 1), 0);
        CHECK.due("ALIKE ones are RIGHT", Check.quay(3, 3).weeks(exchange, 1), 1);
    }

    private static void drawnNone() {
        CHECK.sentence(39, "Behind the latest WEEKS the NAME of a PERSON (what 0), its PLACE (1). NONE.");
        LetterQuay x = Check.quay(1, 2);
        x.weeks(0, 1);
        for (int bad : new int[] {-1, 2, 7, MIN, MAX}) {
            CHECK.due("drawn(" + bad + ", 0)", x.drawn(bad, 0), -1);
            CHECK.due("drawn(" + bad + ", 1)", x.drawn(bad, 1), -1);
        }
        for (int bad : new int[] {-1, 2, MIN, MAX}) {
            CHECK.due("drawn(0, " + bad + ")", x.drawn(0, bad), -1);
        }
        CHECK.so("drawn(1, 0)", x.drawn(1, 0) > 0);
        CHECK.refusals(x, 0, 0, 0, 0, 0);
    }

    private static void drawnAheadOfAny() {
        CHECK.sentence(39, "Behind the latest WEEKS");
        LetterQuay x = Check.quay(1, 2);
        CHECK.due("drawn(0, 0)", x.drawn(0, 0), -1);
        CHECK.due("drawn(0, 1)", x.drawn(0, 1), -1);
        x.weeks(-1, 1);
        CHECK.due("drawn(0, 0) behind a REFUSED one", x.drawn(0, 0), -1);
    }

    private static void drawnBehindTheLatest() {
        CHECK.sentence(39, "Behind the latest WEEKS");
        LetterQuay x = Check.quay(1, 2);
        x.image(0);
        int stroke = Check.seedFor(2, 1, 2, 4);
        x.weeks(stroke, 1);
        x.stroke(0, 0, 3);
        x.swap(0);
        x.person(4);
        CHECK.due("drawn(0, 0)", x.drawn(0, 0), 1);
        CHECK.due("drawn(1, 0)", x.drawn(1, 0), 5);
        CHECK.due("drawn(1, 1)", x.drawn(1, 1), 1);
        CHECK.due("one who came later", x.drawn(2, 0), -1);
        x.weeks(0, 61);
        CHECK.due("behind a REFUSED one", x.drawn(1, 0), 5);
        x.back(0);
        CHECK.due("behind back()", x.drawn(1, 0), 5);
        x.weeks(Check.seedFor(2, 1, 3, 4), 1);
        CHECK.due("the latest", x.drawn(1, 0), 2);
    }
}
