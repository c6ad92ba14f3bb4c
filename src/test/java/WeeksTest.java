/** Promises 38 and 39: weeks by draws, on paper. */
public final class WeeksTest {
    private static final Check CHECK = new Check();

    public static void main(String[] args) {
        refused();
        byHand();
        barred();
        lastDay();
        latest();
        CHECK.finish();
    }

    private static void refused() {
        CHECK.part("38 weeks REFUSED");
        LetterQuay x = new LetterQuay();
        CHECK.due("weeks(0, 1) of nobody", x.weeks(0, 1), -3);
        CHECK.due("weeks(0, 0) of nobody", x.weeks(0, 0), -1);
        x.person(1);
        CHECK.due("weeks(-1, 1)", x.weeks(-1, 1), -1);
        CHECK.due("weeks(1000001, 1)", x.weeks(1000001, 1), -1);
        CHECK.due("weeks(0, 0)", x.weeks(0, 0), -1);
        CHECK.due("weeks(0, 61)", x.weeks(0, 61), -1);
        CHECK.due("status()", x.status(), -1);
        CHECK.due("drawn(0, 0) ahead of any", x.drawn(0, 0), -1);
        CHECK.due("weeks(1000000, 60) of one", x.weeks(1000000, 60), 60);
        CHECK.due("status()", x.status(), 0);
        CHECK.due("drawn(0, 1)", x.drawn(0, 1), 0);
    }

    /**
     * Of three, SEED 0: s is 12345, 628841, 628589 (at PLACE 0 exchange); then 333113, 436333, 287711
     * (333113 % 3 = 2, 436333 % 4 = 1: there is no next one behind PLACE 2).
     */
    private static void byHand() {
        CHECK.part("38 weeks, 39 drawn by hand");
        LetterQuay x = Check.quay(2, 1, 3);
        long s = 0;
        long[] seen = new long[6];
        for (int n = 0; n < 6; n++) {
            s = (s * 1103 + 12345) % 1000003;
            seen[n] = s;
        }
        CHECK.due("first DRAW", seen[0] % 3, 0);
        CHECK.due("second DRAW", seen[1] % 4, 1);
        CHECK.due("weeks(0, 1)", x.weeks(0, 1), 1);
        CHECK.due("drawn(0, 1)", x.drawn(0, 1), 1);
        CHECK.due("drawn(1, 1)", x.drawn(1, 1), 0);
        CHECK.due("drawn(2, 1)", x.drawn(2, 1), 2);
        CHECK.due("drawn(0, 0)", x.drawn(0, 0), 2);
        CHECK.due("drawn(3, 0)", x.drawn(3, 0), -1);
        CHECK.due("drawn(-1, 0)", x.drawn(-1, 0), -1);
        CHECK.due("drawn(0, 2)", x.drawn(0, 2), -1);
        CHECK.due("drawn(0, -1)", x.drawn(0, -1), -1);
        CHECK.due("at(0) stays", x.at(0), 0);
        CHECK.due("count(12) stays", x.count(12), 0);
        CHECK.due("count(4) stays", x.count(4), 0);
        // A SEED by which the DRAWS are 1, 2, 4: the first LETTER of PERSON 1 becomes 5, where 0 stands at PLACE 1.
        x.swap(0);
        int seed = Check.seedFor(3, 1, 2, 4);
        CHECK.due("weeks(seed, 1)", x.weeks(seed, 1), 0);
        CHECK.due("drawn(1, 0)", x.drawn(1, 0), 5);
        CHECK.due("drawn(0, 0)", x.drawn(0, 0), 2);
        CHECK.due("of(1, 0) stays", x.of(1, 0), 1);
        seed = Check.seedFor(3, 1, 3, 4);
        CHECK.due("weeks(seed, 1) of nothing", x.weeks(seed, 1), 1);
        CHECK.due("drawn(1, 0)", x.drawn(1, 0), 1);
        seed = Check.seedFor(3, 2, 0, 0);
        CHECK.due("weeks(seed, 1) without a next one", x.weeks(seed, 1), 1);
        CHECK.due("drawn(2, 1)", x.drawn(2, 1), 2);
        seed = Check.seedFor(3, 1, 0, 0);
        CHECK.due("weeks(seed, 1) by PLACE", x.weeks(seed, 1), 0);
        CHECK.due("drawn(0, 1)", x.drawn(0, 1), 2);
        CHECK.due("drawn(2, 1)", x.drawn(2, 1), 1);
    }

    private static void barred() {
        CHECK.part("38 weeks, BARRED");
        LetterQuay x = Check.quay(2, 15, 3);
        int seed = Check.seedFor(3, 1, 2, 4);
        x.weeks(seed, 1);
        CHECK.due("drawn(1, 0): the first LETTER alone counts", x.drawn(1, 0), 55);
        x = Check.quay(2, 13, 3);
        Check.force(x, "bars if person = 1 and day = 0");
        x.weeks(seed, 1);
        CHECK.due("drawn(1, 0)", x.drawn(1, 0), 13);
        x.pass();
        x.weeks(seed, 1);
        CHECK.due("drawn(1, 0)", x.drawn(1, 0), 53);
        Check.force(x, "bars");
        x.weeks(77, 60);
        for (int person = 0; person < 3; person++) {
            CHECK.due("drawn(person, 0)", x.drawn(person, 0), x.of(person, 0));
        }
    }

    private static void lastDay() {
        CHECK.part("38 weeks at the last DAY");
        LetterQuay x = Check.quay(1);
        x.terms(0, 995);
        CHECK.due("weeks(5, 60)", x.weeks(5, 60), 4);
        x.terms(0, 999);
        CHECK.due("weeks(5, 60)", x.weeks(5, 60), 0);
        CHECK.due("drawn(0, 0)", x.drawn(0, 0), 1);
    }

    private static void latest() {
        CHECK.part("39 drawn, the latest");
        LetterQuay x = Check.quay(2, 1);
        x.image(0);
        x.person(3);
        x.weeks(0, 1);
        int place = x.drawn(2, 1);
        x.weeks(0, 0);
        CHECK.due("drawn behind a REFUSED one", x.drawn(2, 1), place);
        x.person(4);
        CHECK.due("drawn(3, 0) of one who came later", x.drawn(3, 0), -1);
        x.back(0);
        CHECK.due("drawn behind back()", x.drawn(2, 1), place);
        CHECK.due("drawn behind back()", x.drawn(2, 0), 3);
    }
}
