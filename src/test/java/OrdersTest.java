/** Promises 14 and 16: orders that are run wholly or not at all. */
public final class OrdersTest {
    private static final Check CHECK = new Check();

    public static void main(String[] args) {
        run();
        words();
        times();
        stopped();
        logGoesBack();
        CHECK.finish();
    }

    private static void run() {
        CHECK.part("14 orders");
        LetterQuay x = Check.quay(21, 3);
        CHECK.due("orders()", Check.orders(x, "stroke 0 at 1 to 5; swap 0; decree 3; pass"), 4);
        CHECK.due("status()", x.status(), 0);
        CHECK.due("stopped()", x.stopped(), -1);
        CHECK.due("count(5)", x.count(5), 0);
        CHECK.due("of(0, 0)", x.of(0, 0), 25);
        CHECK.due("at(0)", x.at(0), 1);
        CHECK.due("alphabet()", x.alphabet(), 12354);
        CHECK.due("count(12)", x.count(12), 1);
        CHECK.due("count(4)", x.count(4), 4);
        CHECK.due("undo()", x.undo(), 3);
        CHECK.due("undo()", x.undo(), 2);
        CHECK.due("undo()", x.undo(), 1);
        CHECK.due("undo()", x.undo(), 0);
        CHECK.due("of(0, 0)", x.of(0, 0), 21);
        CHECK.due("orders() that run nothing", Check.orders(x, "pass if 1=2; pass if 1/0=1"), 0);
        CHECK.due("status()", x.status(), 0);
        CHECK.due("orders() with a FAULT", Check.orders(x, "pass; pas"), -6);
        CHECK.due("status()", x.status(), -6);
        CHECK.due("count(12)", x.count(12), 0);
    }

    /** Runs a TEXT that asks "pass if TEST" for how the words stand; 1 if it was so. */
    private static void word(LetterQuay x, String head, String test) {
        x.image(0);
        int ahead = head.isEmpty() ? 0 : head.split(";").length;
        CHECK.due(head + " pass if " + test, Check.orders(x, head + " pass if " + test), ahead + 1);
        x.back(0);
    }

    private static void words() {
        CHECK.part("words of ORDERS");
        LetterQuay x = Check.quay(21, 3, 1);
        x.terms(0, 5);
        Check.force(x, "strokes 6 + new");
        word(x, "", "day = 5");
        word(x, "pass;", "day = 6");
        word(x, "", "done = 0");
        word(x, "pass; pass;", "done = 2");
        word(x, "", "latest = 0-1");
        word(x, "stroke 0 at 0 to 4;", "latest = 10");
        word(x, "stroke 0 at 0 to 4; pass; stroke 0 at 0 to 2; swap 0;", "latest = 8");
        word(x, "", "breaks = 1");
        Check.force(x, "strokes 0");
        word(x, "stroke 0 at 0 to 4;", "latest = 0 and done = 1");
        word(x, "swap 1;", "breaks = 1");
        word(x, "swap 1; swap 0;", "breaks = 0");
        word(x, "", "swaps = 2");
        word(x, "swap 1;", "swaps = 1");
        word(x, "", "who 0 = 0 and who 2 = 2 and who 3 = 0-1 and who 6 = 0-1");
        word(x, "swap 0;", "who 0 = 1 and who 1 = 0");
        word(x, "", "name 0 = 21 and name 2 = 1 and name 3 = 0-1 and name 6 = 0-1");
        word(x, "stroke 0 at 1 to 5;", "name 0 = 25");
        CHECK.due("done in another TEXT", Check.orders(x, "pass if done > 0; pass if latest > 0-1"), 0);
    }

    private static void times() {
        CHECK.part("times");
        LetterQuay x = Check.quay(5, 4, 3, 2, 1);
        CHECK.due("pass times 20", Check.orders(x, "pass times 20"), 20);
        CHECK.due("count(12)", x.count(12), 20);
        CHECK.due("count(4)", x.count(4), 16);
        CHECK.due("each time its if is asked", Check.orders(x, "pass times 20 if day < 23"), 3);
        CHECK.due("each time its SUMS are asked", Check.orders(x, "swap done times 4"), 4);
        CHECK.due("at(4)", x.at(4), 0);
        CHECK.due("at(0)", x.at(0), 1);
    }

    private static void stopped() {
        CHECK.part("16 stopped");
        LetterQuay x = Check.quay(21, 3);
        CHECK.due("a stroke that can't be", Check.orders(x, "pass; pass; stroke 0 at 0 to 2; pass"), -3);
        CHECK.due("status()", x.status(), -3);
        CHECK.due("stopped()", x.stopped(), 2);
        CHECK.due("fault()", x.fault(), -1);
        CHECK.due("count(12)", x.count(12), 0);
        CHECK.due("count(4)", x.count(4), 0);
        CHECK.due("count(8)", x.count(8), 1);
        CHECK.due("a number that can't be", Check.orders(x, "decree 4"), -3);
        CHECK.due("a number that can't be", Check.orders(x, "stroke 0 at 4 to 1"), -3);
        CHECK.due("a number that can't be", Check.orders(x, "stroke 0 at 0 to 6"), -3);
        CHECK.due("no such PERSON", Check.orders(x, "stroke 2 at 0 to 1"), -3);
        CHECK.due("no such PLACE", Check.orders(x, "swap 1"), -3);
        CHECK.due("no such PLACE", Check.orders(x, "swap 0-1"), -3);
        CHECK.due("stopped()", x.stopped(), 0);
        CHECK.due("a BROKEN SUM", Check.orders(x, "pass; swap 1/0"), -3);
        CHECK.due("stopped()", x.stopped(), 1);
        CHECK.due("a BROKEN SUM at the end", Check.orders(x, "stroke 0 at 0 to 1%0"), -3);
        CHECK.due("not asked, as its if is not so", Check.orders(x, "swap 1/0 if 1=2"), 0);
        CHECK.due("stopped()", x.stopped(), -1);
        CHECK.due("the second time", Check.orders(x, "pass; stroke 0 at 0 to 5 times 2"), -3);
        CHECK.due("stopped()", x.stopped(), 1);
        CHECK.due("of(0, 0)", x.of(0, 0), 21);
        CHECK.due("orders() with a FAULT", Check.orders(x, "pas"), -6);
        CHECK.due("stopped()", x.stopped(), -1);
        CHECK.due("count(6) and count(7) know nothing of it", x.count(6) + x.count(7), 0);
        x.terms(0, 998);
        CHECK.due("no DAY left", Check.orders(x, "pass times 2"), -3);
        CHECK.due("count(12)", x.count(12), 998);
        Check.law(x, "bars if day = 999");
        x.force(0);
        CHECK.due("BARRED in the midst", Check.orders(x, "stroke 0 at 0 to 1; pass; stroke 0 at 0 to 3"), -3);
        CHECK.due("stopped()", x.stopped(), 2);
        CHECK.due("of(0, 0)", x.of(0, 0), 21);
    }

    private static void logGoesBack() {
        CHECK.part("what can be undone, behind ORDERS that could not be");
        LetterQuay x = Check.quay(21, 3);
        x.swap(0);
        x.decree(2);
        CHECK.due("orders()", Check.orders(x, "pass times 20; swap 5"), -3);
        CHECK.due("count(4)", x.count(4), 2);
        CHECK.due("undo()", x.undo(), 2);
        CHECK.due("alphabet()", x.alphabet(), 12345);
        CHECK.due("undo()", x.undo(), 1);
        CHECK.due("at(0)", x.at(0), 0);
        CHECK.due("undo()", x.undo(), -3);
    }
}
