/** ORDERS of Terms II and promises 14, 16 at their edges: a part of its own for each sentence that names one. */
public final class EdgeOrdersTest {
    private static final Check CHECK = new Check();

    public static void main(String[] args) {
        tapeIsEmptyThen();
        whatEachDoes();
        words();
        onceWithout();
        asOftenAsTimesTell();
        ifEachTime();
        ifAheadOfSums();
        done();
        latest();
        breaksAndSwaps();
        whoAndName();
        cannotBe();
        brokenSum();
        allIsAsItWas();
        whatCanBeUndoneIsAsItWas();
        refusedOnce();
        stopped();
        stoppedNone();
        faultAheadOfRunning();
        lastDay();
        mostThatCanRun();
        CHECK.finish();
    }

    private static void tapeIsEmptyThen() {
        CHECK.sentence(14, "ORDERS, the TAPE is empty then: how many were run.");
        LetterQuay x = Check.quay(1, 2);
        CHECK.due("orders()", Check.orders(x, "pass"), 1);
        CHECK.due("count(5)", x.count(5), 0);
        Check.orders(x, "swap 9");
        CHECK.due("count(5) behind -3", x.count(5), 0);
        Check.orders(x, "swap");
        CHECK.due("count(5) behind -6", x.count(5), 0);
        CHECK.due("orders() of nothing", x.orders(), -6);
        CHECK.due("fault()", x.fault(), 0);
        CHECK.due("orders() of which none is run", Check.orders(x, "pass if 1=2"), 0);
        CHECK.due("status()", x.status(), 0);
    }

    private static void whatEachDoes() {
        CHECK.sentence(0, "(a PERSON, which LETTER, what it becomes; a PLACE; two LETTERS that are next to one another in the ALPHABET change, as the place of the first one there, 0 .. 3; a DAY.)");
        LetterQuay x = Check.quay(1234, 2, 3);
        CHECK.due("orders()", Check.orders(x, "stroke 0 at 0 to 5; stroke 0 at 3 to 1; swap 1; decree 0; decree 3; pass"), 6);
        CHECK.due("of(0, 0)", x.of(0, 0), 5231);
        CHECK.due("at(1)", x.at(1), 2);
        CHECK.due("at(2)", x.at(2), 1);
        CHECK.due("alphabet()", x.alphabet(), 21354);
        CHECK.due("count(12)", x.count(12), 1);
        CHECK.due("places of the ALPHABET as it is then", Check.orders(x, "decree 0; decree 0; decree 1"), 3);
        CHECK.due("alphabet()", x.alphabet(), 23154);
    }

    private static void words() {
        CHECK.sentence(0, "Words: \"day\" | \"done\" | \"latest\" | \"breaks\" | \"swaps\" | \"who\" L | \"name\" P (L: a NUMBER 0 .. 6, a PLACE; P: 0 .. 6).");
        String[] words = {"day", "done", "latest", "breaks", "swaps", "who 0", "who 1", "name 0", "name 1"};
        int[] due = {7, 2, 5, 1, 2, 1, 2, 25, 33};
        for (int i = 0; i < words.length; i++) {
            LetterQuay x = Check.quay(21, 33, 1);
            x.terms(0, 6);
            x.swap(0);
            x.swap(1);
            Check.force(x, "strokes new");
            // The row is 33, 1, 25 then.
            CHECK.due(words[i], Check.orders(x, "pass; stroke 0 at 1 to 5; pass if " + words[i] + " = " + due[i]), 3);
        }
    }

    private static void onceWithout() {
        CHECK.sentence(0, "each as often as TIMES tell (once without)");
        LetterQuay x = Check.quay(1, 2);
        CHECK.due("pass", Check.orders(x, "pass"), 1);
        CHECK.due("pass times 1", Check.orders(x, "pass times 1"), 1);
        CHECK.due("swap 0", Check.orders(x, "swap 0"), 1);
        CHECK.due("count(12)", x.count(12), 2);
        CHECK.due("at(0)", x.at(0), 1);
    }

    private static void asOftenAsTimesTell() {
        CHECK.sentence(0, "TIMES: a NUMBER 1 .. 20.");
        for (int n = 1; n <= 20; n++) {
            LetterQuay x = Check.quay(1, 2);
            CHECK.due("pass times " + n, Check.orders(x, "pass times " + n + "; decree 0"), n + 1);
            CHECK.due("count(12)", x.count(12), n);
        }
    }

    private static void ifEachTime() {
        CHECK.sentence(0, "each time its \"if\" is asked (not run, if it is not so or BROKEN)");
        LetterQuay x = Check.quay(1, 2);
        CHECK.due("till it is so", Check.orders(x, "pass times 20 if day < 3"), 3);
        CHECK.due("BROKEN", Check.orders(x, "pass if 1/0=1; pass if not 1/0=1; pass if 1/[day-3]=0"), 0);
        CHECK.due("BROKEN the first time alone", Check.orders(x, "pass; pass times 3 if 10/[done-1]>0"), 1);
        CHECK.due("so the second time", Check.orders(x, "decree 0; decree 0 times 3 if done = 1 or done = 2"), 3);
        CHECK.due("count(12)", x.count(12), 4);
    }

    private static void ifAheadOfSums() {
        CHECK.sentence(0, "each time its \"if\" is asked (not run, if it is not so or BROKEN), then its SUMS from the left");
        LetterQuay x = Check.quay(1, 2);
        CHECK.due("a BROKEN SUM that is not asked", Check.orders(x, "swap 1/0 if 1=2; stroke 1/0 at 9 to 9 if 1/0=1"), 0);
        CHECK.due("what can't be is not run", Check.orders(x, "swap 9 if 1=2; decree 4 if 1/0=1"), 0);
        CHECK.due("status()", x.status(), 0);
    }

    private static void done() {
        CHECK.sentence(0, "done: how many were run in this TEXT");
        LetterQuay x = Check.quay(1, 2, 3, 4, 5);
        CHECK.due("orders()", Check.orders(x, "pass times 3; pass if 1=2; decree done"), 4);
        CHECK.due("alphabet()", x.alphabet(), 12354);
        CHECK.due("0 at first", Check.orders(x, "decree done"), 1);
        CHECK.due("alphabet()", x.alphabet(), 21354);
        CHECK.due("it grows within a CLAUSE", Check.orders(x, "swap done times 4"), 4);
        CHECK.due("at(4)", x.at(4), 0);
    }

    private static void latest() {
        CHECK.sentence(0, "latest: what the latest stroke in it told (-1: none)");
        LetterQuay x = Check.quay(1, 2, 3);
        Check.force(x, "strokes 7*new-7; steps 40");
        CHECK.due("none", Check.orders(x, "pass if latest = 0-1"), 1);
        CHECK.due("none by what is no stroke", Check.orders(x, "swap 0; swap 0; decree 0; decree 0; pass if latest = 0-1"), 5);
        CHECK.due("a stroke", Check.orders(x, "stroke 0 at 0 to 3; swap 0; pass if latest = 14"), 3);
        CHECK.due("the latest", Check.orders(x, "stroke 0 at 0 to 4; stroke 0 at 0 to 2; pass; pass if latest = 7"), 4);
        CHECK.due("one that costs 0", Check.orders(x, "stroke 0 at 0 to 1; pass if latest = 0"), 2);
        CHECK.due("not that of another TEXT", Check.orders(x, "pass if latest > 0-1"), 0);
        CHECK.due("not one that was not run", Check.orders(x, "stroke 0 at 0 to 5 if 1=2; pass if latest = 0-1"), 1);
    }

    private static void breaksAndSwaps() {
        CHECK.sentence(0, "breaks, swaps: as breaks(NONE), swaps() tell");
        LetterQuay x = Check.quay(3, 2, 1);
        CHECK.due("at first", Check.orders(x, "pass if breaks = 2 and swaps = 3"), 1);
        CHECK.due("till it is RIGHT", Check.orders(x, "swap 0; pass if breaks = 1 and swaps = 2; swap 1; pass if breaks = 1 and swaps = 1; swap 0; pass if breaks = 0 and swaps = 0"), 6);
        CHECK.due("of nobody", Check.orders(new LetterQuay(), "pass if breaks = 0 and swaps = 0"), 1);
        CHECK.due("by the ALPHABET as it is then", Check.orders(x, "decree 0; pass if breaks = 1 and swaps = 1"), 2);
    }

    private static void whoAndName() {
        CHECK.sentence(0, "who, name: -1 without such a one");
        LetterQuay x = Check.quay(55, 4, 3);
        x.swap(0);
        String[] tests = {"who 0 = 1", "who 1 = 0", "who 2 = 2", "who 3 = 0-1", "who 6 = 0-1",
            "name 0 = 55", "name 1 = 4", "name 2 = 3", "name 3 = 0-1", "name 6 = 0-1"};
        for (String test : tests) {
            CHECK.due(test, Check.orders(x, "pass if " + test), 1);
        }
        LetterQuay full = Check.quay(1, 2, 3, 4, 5, 11, 5555);
        CHECK.due("the last ones", Check.orders(full, "pass if who 6 = 6 and name 6 = 5*1000+555"), 1);
        CHECK.due("of nobody", Check.orders(new LetterQuay(), "pass if who 0 = 0-1 and name 0 = 0-1"), 1);
        CHECK.due("as it is then", Check.orders(x, "stroke 0 at 1 to 1; swap 0; pass if who 0 = 0 and name 0 = 51"), 3);
    }

    private static void cannotBe() {
        CHECK.sentence(0, "One that can't be (a BROKEN SUM, as stroke(), swap(), decree(), pass() are REFUSED) ends it");
        CHECK.sentence(14, "-3 one can't be");
        String[] bad = {"stroke 0 at 4 to 1", "stroke 0 at 0-1 to 1", "stroke 0 at 0 to 0", "stroke 0 at 0 to 6", "stroke 2 at 0 to 1",
            "stroke 0-1 at 0 to 2", "stroke 0 at 0 to 1", "stroke 0 at 1 to 1", "stroke 1 at 0 to 1", "swap 1", "swap 2", "swap 0-1",
            "decree 4", "decree 0-1", "pass times 2", "swap 1000*1000*1000", "swap 0-1000*1000*1000", "stroke 1000 at 1000 to 1000"};
        for (String order : bad) {
            LetterQuay x = Check.quay(1, 22);
            x.terms(0, 998);
            Check.force(x, "bars if person = 1");
            CHECK.due(order, Check.orders(x, "swap 0; decree 0;" + order), -3);
            CHECK.due("status() of " + order, x.status(), -3);
            CHECK.due("stopped() of " + order, x.stopped(), 2);
            CHECK.due("count(12) of " + order, x.count(12), 998);
            CHECK.due("at(0) of " + order, x.at(0), 0);
            CHECK.due("alphabet() of " + order, x.alphabet(), 12345);
            CHECK.refusals(x, 0, 0, 1, 0, 0);
        }
        LetterQuay x = Check.quay(1, 22);
        CHECK.due("those just within", Check.orders(x, "stroke 1 at 1 to 5; stroke 0 at 0 to 2; swap 0; decree 0; decree 3; pass"), 6);
    }

    private static void brokenSum() {
        CHECK.sentence(0, "(a BROKEN SUM, as stroke(), swap(), decree(), pass() are REFUSED)");
        String[] bad = {"stroke 1/0 at 0 to 2", "stroke 0 at 1/0 to 2", "stroke 0 at 0 to 2+1/0", "swap 0*[1/0]", "decree 1%0",
            "swap 1000*1000*1000*1000*0", "decree 0*[1000*1000*1000+1]"};
        for (String order : bad) {
            LetterQuay x = Check.quay(1, 22);
            CHECK.due(order, Check.orders(x, "pass;" + order), -3);
            CHECK.due("stopped()", x.stopped(), 1);
            CHECK.due("count(12)", x.count(12), 0);
        }
    }

    private static void allIsAsItWas() {
        CHECK.sentence(0, "all is as it was ahead of it");
        LetterQuay x = Check.quay(1, 22, 3);
        x.terms(0, 5);
        Check.orders(x, "stroke 1 at 1 to 5; swap 1; swap 0; decree 2; pass times 3; stroke 2 at 0 to 1; swap 7");
        int[] names = {1, 22, 3};
        for (int person = 0; person < 3; person++) {
            CHECK.due("of(" + person + ", 0)", x.of(person, 0), names[person]);
            CHECK.due("of(" + person + ", 1)", x.of(person, 1), person);
            CHECK.due("at(" + person + ")", x.at(person), person);
        }
        CHECK.due("alphabet()", x.alphabet(), 12345);
        CHECK.due("ahead(0, 1)", x.ahead(0, 1), 1);
        CHECK.due("count(12)", x.count(12), 5);
        CHECK.due("count(4)", x.count(4), 0);
        CHECK.due("the last time of many", Check.orders(x, "swap done times 3"), -3);
        CHECK.due("at(0)", x.at(0), 0);
        CHECK.due("stopped()", x.stopped(), 0);
    }

    /** Twenty changes would push out all sixteen that were kept. */
    private static void whatCanBeUndoneIsAsItWas() {
        CHECK.sentence(0, "all is as it was ahead of it");
        LetterQuay x = Check.quay(1, 22, 3);
        int[] kinds = new int[16];
        for (int n = 0; n < 16; n++) {
            kinds[n] = n % 4;
            int told = n % 4 == 0 ? x.stroke(1, 0, n / 4 % 2 == 0 ? 5 : 2) : n % 4 == 1 ? x.swap(0) : n % 4 == 2 ? x.decree(n / 4) : x.pass();
            CHECK.so("a change", told >= 0);
        }
        Check.orders(x, "pass times 20; swap 7");
        CHECK.due("count(4)", x.count(4), 16);
        for (int n = 15; n >= 0; n--) {
            CHECK.due("undo() of change " + n, x.undo(), kinds[n]);
        }
        CHECK.due("of(1, 0)", x.of(1, 0), 22);
        CHECK.due("at(0)", x.at(0), 0);
        CHECK.due("alphabet()", x.alphabet(), 12345);
        CHECK.due("count(12)", x.count(12), 0);
    }

    private static void refusedOnce() {
        CHECK.sentence(42, "6 .. 10 how many calls were REFUSED by -1, -2, -3, -5, -6");
        LetterQuay x = Check.quay(1, 2);
        Check.orders(x, "decree 4");
        Check.orders(x, "swap 1");
        Check.orders(x, "stroke 0 at 0 to 1");
        CHECK.refusals(x, 0, 0, 3, 0, 0);
        Check.orders(x, "decree");
        CHECK.refusals(x, 0, 0, 3, 0, 1);
    }

    private static void stopped() {
        CHECK.sentence(16, "Which CLAUSE of the latest orders() could not be.");
        for (int n = 0; n < 12; n++) {
            LetterQuay x = Check.quay(1, 2);
            CHECK.due("orders()", Check.orders(x, "pass;".repeat(n) + "swap 1" + ";pass".repeat(11 - n)), -3);
            CHECK.due("stopped()", x.stopped(), n);
        }
        LetterQuay x = Check.quay(1, 2);
        Check.orders(x, "pass times 9; pass if 1=2; decree done times 2");
        CHECK.due("stopped() counts CLAUSES, not what was run", x.stopped(), 2);
    }

    private static void stoppedNone() {
        CHECK.sentence(16, "could not be. NONE.");
        LetterQuay x = Check.quay(1, 2);
        CHECK.due("ahead of any", x.stopped(), -1);
        Check.orders(x, "swap 1");
        CHECK.due("stopped()", x.stopped(), 0);
        Check.law(x, "x");
        x.swap(1);
        CHECK.due("stopped() behind other calls", x.stopped(), 0);
        Check.orders(x, "pass");
        CHECK.due("behind one that could be", x.stopped(), -1);
        Check.orders(x, "swap 1");
        Check.orders(x, "swap 1 x");
        CHECK.due("behind one that was not read", x.stopped(), -1);
        Check.orders(x, "swap 1");
        x.orders();
        CHECK.due("behind an empty TAPE", x.stopped(), -1);
    }

    private static void faultAheadOfRunning() {
        CHECK.sentence(14, "-6 (as for law())");
        LetterQuay x = Check.quay(1, 2);
        CHECK.due("a FAULT behind what could be", Check.orders(x, "pass; pass; pas"), -6);
        CHECK.due("nothing was run", x.count(12), 0);
        CHECK.due("a FAULT behind what can't be", Check.orders(x, "swap 9; pas"), -6);
        CHECK.due("fault()", x.fault(), 8);
        CHECK.due("stopped()", x.stopped(), -1);
        CHECK.due("count(4)", x.count(4), 0);
    }

    private static void lastDay() {
        CHECK.sentence(0, "A DAY passes (DAY below 999).");
        LetterQuay x = Check.quay(1, 2);
        x.terms(0, 979);
        CHECK.due("to the last DAY", Check.orders(x, "pass times 20"), 20);
        CHECK.due("count(12)", x.count(12), 999);
        CHECK.due("one more", Check.orders(x, "pass"), -3);
        CHECK.due("as long as it can be", Check.orders(x, "pass times 20 if day < 999"), 0);
        x.terms(0, 980);
        CHECK.due("one too many", Check.orders(x, "pass times 20"), -3);
        CHECK.due("count(12)", x.count(12), 980);
    }

    private static void mostThatCanRun() {
        CHECK.sentence(0, "Run CLAUSE by CLAUSE, each as often as TIMES tell");
        LetterQuay x = Check.quay(1, 2);
        CHECK.due("twelve times twenty", Check.orders(x, "pass times 20" + ";pass times 20".repeat(11)), 240);
        CHECK.due("count(12)", x.count(12), 240);
        CHECK.due("count(4)", x.count(4), 16);
        for (int n = 0; n < 16; n++) {
            x.undo();
        }
        CHECK.due("count(12)", x.count(12), 224);
        CHECK.due("undo()", x.undo(), -3);
    }
}
