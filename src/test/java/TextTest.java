/** Promises 13 and 15, and both languages: where a FAULT is, what SUMS and TESTS come to. */
public final class TextTest {
    private static final Check CHECK = new Check();

    public static void main(String[] args) {
        lawNumbers();
        lawFaults();
        orderFaults();
        limits();
        sums();
        tests();
        CHECK.finish();
    }

    private static void lawNumbers() {
        CHECK.part("13 law");
        LetterQuay x = new LetterQuay();
        for (int n = 0; n < 6; n++) {
            CHECK.due("law()", Check.law(x, "bars"), n);
        }
        CHECK.due("fault()", x.fault(), -1);
        CHECK.due("a seventh law()", Check.law(x, "bars bars"), -5);
        CHECK.due("fault() of one that was not read", x.fault(), -1);
        CHECK.due("count(5)", x.count(5), 0);
        CHECK.due("status()", x.status(), -5);
        CHECK.due("count(3)", x.count(3), 6);
        CHECK.due("count(9)", x.count(9), 1);
        CHECK.due("orders()", Check.orders(x, "pass pass"), -6);
        CHECK.due("fault()", x.fault(), 5);
        CHECK.due("a seventh law()", Check.law(x, "bars"), -5);
        CHECK.due("fault() stays", x.fault(), 5);
    }

    private static void fault(boolean ofOrders, String text, int want) {
        LetterQuay x = Check.quay(1);
        int answer = ofOrders ? Check.orders(x, text) : Check.law(x, text);
        CHECK.due("FAULT of '" + text + "'", x.fault(), want);
        CHECK.due("TAPE behind '" + text + "'", x.count(5), 0);
        CHECK.due("whether '" + text + "' was REFUSED", answer == -6 ? 1 : 0, want == -1 ? 0 : 1);
        CHECK.due("LAWS behind '" + text + "'", x.count(3), want == -1 && !ofOrders ? 1 : 0);
    }

    private static void lawFaults() {
        CHECK.part("15 fault of a law");
        fault(false, "", 0);
        fault(false, "   ", 3);
        fault(false, "strokes 1", -1);
        fault(false, "  strokes1  ", -1);
        fault(false, "strokes 1;steps 2;bars if 1=1 ; bars", -1);
        fault(false, "strokes", 7);
        fault(false, "strokes ", 8);
        fault(false, "bars;", 5);
        fault(false, "bars; ", 6);
        fault(false, ";bars", 0);
        fault(false, "bars;;bars", 5);
        fault(false, "Bars", 0);
        fault(false, "barss", 0);
        fault(false, "barsz", 0);
        fault(false, "barsa", 0);
        fault(false, "bars`", 4);
        fault(false, "bars{", 4);
        fault(false, "steps 1/0", -1);
        fault(false, "steps 1:", 7);
        fault(false, "steps 9z", 7);
        fault(false, "bars 1", 5);
        fault(false, "bars\n", 4);
        fault(false, "bars\u00ff", 4);
        fault(false, "strokes 1000", -1);
        fault(false, "strokes 0001000", -1);
        fault(false, "strokes 1001", 8);
        fault(false, "strokes 99999999999999999999", 8);
        fault(false, "strokes 1 1", 10);
        fault(false, "strokes -1", 8);
        fault(false, "strokes 1+", 10);
        fault(false, "strokes (1)", 8);
        fault(false, "strokes [1", 10);
        fault(false, "strokes [1)", 10);
        fault(false, "strokes []", 9);
        fault(false, "strokes who 1", 8);
        fault(false, "strokes done", 8);
        fault(false, "strokes person+place+length+at+letter+new+day+mood", -1);
        fault(false, "bars if", 7);
        fault(false, "bars if 1", 9);
        fault(false, "bars if 1<", 10);
        fault(false, "bars if 1<2<3", 11);
        fault(false, "bars if 1<2 or", 14);
        fault(false, "bars if not", 11);
        fault(false, "bars if not not not 1<2", -1);
        fault(false, "bars if (1<2) and ([1]=1 or not (2=2))", -1);
        fault(false, "bars if (1<2", 12);
        fault(false, "bars if (1<2]", 12);
        fault(false, "bars if (1)<2", 10);
        fault(false, "bars if [1<2]", 10);
        fault(false, "bars if 1=1 if 1=1", 12);
        fault(false, "bars if 1=1 times 2", 12);
        fault(false, "pass", 0);
    }

    private static void orderFaults() {
        CHECK.part("15 fault of orders");
        fault(true, "", 0);
        fault(true, "pass", -1);
        fault(true, "pass times 1", -1);
        fault(true, "pass times 20 if 1=1", -1);
        fault(true, "pass times 020", -1);
        fault(true, "pass times 0", 11);
        fault(true, "pass times 21", 11);
        fault(true, "pass times", 10);
        fault(true, "pass times day", 11);
        fault(true, "pass times 2+1", 12);
        fault(true, "pass if 1=1 times 2", 12);
        fault(true, "pass 1", 5);
        fault(true, "swap", 4);
        fault(true, "swap person", 5);
        fault(true, "swap at", 5);
        fault(true, "stroke 0 0 0", 9);
        fault(true, "stroke 0 to 0", 9);
        fault(true, "stroke 0 at 0 at", 14);
        fault(true, "stroke 0 at 0 to", 16);
        fault(true, "stroke0at0to2", -1);
        fault(true, "decree who 6 * 0", -1);
        fault(true, "decree who 7", 11);
        fault(true, "decree name 6 * 0", -1);
        fault(true, "decree name 7", 12);
        fault(true, "decree name who 0", 12);
        fault(true, "decree who", 10);
        fault(true, "decree [day+done+latest+breaks+swaps]*0", -1);
        fault(true, "decree mood", 7);
        fault(true, "strokes 1", 0);
        fault(true, "bars", 0);
    }

    private static String times(String part, int n) {
        return part.repeat(n);
    }

    private static void limits() {
        CHECK.part("limits of TEXTS");
        fault(false, "bars" + times(";bars", 11), -1);
        fault(false, "bars" + times(";bars", 12), 60);
        fault(false, "bars" + times(";bars", 11) + "; ", 61);
        fault(true, "pass" + times(" ; pass", 11), -1);
        fault(true, "pass" + times(" ; pass", 12), 4 + 7 * 11 + 3);
        fault(false, "strokes 1" + times("+1", 49), -1);
        fault(false, "strokes 1" + times("+1", 50), 8 + 100);
        fault(false, "strokes 1" + times("+1", 24) + ";bars if day" + times("+1", 23) + "=0", -1);
        fault(false, "strokes 1" + times("+1", 24) + ";bars if day" + times("+1", 24) + "=0", 8 + 49 + 12 + 48 + 1);
        fault(true, "decree 0*who 0" + times("*who 0", 48), -1);
        fault(true, "decree 0*who 0" + times("*who 0", 49), 9 + 6 * 49);
        fault(true, "pass times 2" + times(";pass times 2", 11), -1);
        fault(false, "steps " + times("[", 8) + "1" + times("]", 8), -1);
        fault(false, "steps " + times("[", 9) + "1" + times("]", 9), 14);
        fault(false, "bars if " + times("(", 8) + "1=1" + times(")", 8), -1);
        fault(false, "bars if " + times("(", 9) + "1=1" + times(")", 9), 16);
        fault(false, "bars if " + times("(", 4) + times("[", 4) + "1" + times("]", 4) + "=1" + times(")", 4), -1);
        fault(false, "bars if " + times("(", 4) + times("[", 5) + "1" + times("]", 5) + "=1" + times(")", 4), 16);
        fault(false, "steps [1]+[2]" + times("+[1]", 9), -1);
        fault(false, "bars if " + times("not ", 97) + "1=1", -1);
        fault(false, times(" ", 396) + "bars", -1);
        fault(false, times(";", 400), 0);
        fault(false, "bars if " + times("(", 392), 16);
    }

    /** What a STEP costs that the SUM tells, 77 if it is BROKEN. */
    private static void sum(String sum, int want) {
        LetterQuay x = Check.quay(213, 4);
        x.terms(0, 30);
        x.terms(2, 7);
        Check.force(x, "steps 77; steps " + sum);
        CHECK.due(sum, x.of(0, 2), want);
    }

    private static void sums() {
        CHECK.part("SUMS");
        sum("2+3*4", 14);
        sum("[2+3]*4", 20);
        sum("20-3-4", 13);
        sum("100/7/2", 7);
        sum("100%7", 2);
        sum("[0-7]/2+50", 47);
        sum("[0-7]%2+50", 49);
        sum("7%[0-2]+50", 51);
        sum("5/0", 77);
        sum("5%0", 77);
        sum("5/[1-1]*0", 77);
        sum("1000*1000*1000/1000/1000/100", 10);
        sum("[1000*1000*1000+1]*0", 77);
        sum("[0-1000*1000*1000]*0+3", 3);
        sum("[0-1000*1000*1000-1]*0+3", 77);
        sum("1000*1000*1000*1000/1000", 77);
        sum("100", 99);
        sum("0-1", 0);
        sum("99", 99);
        sum("day+mood+length", 40);
        sum("50+at+letter+new+person+place", 47);
    }

    private static void test(String test, int want) {
        LetterQuay x = Check.quay(213, 4);
        Check.force(x, "steps 1; steps 0 if not (" + test + "); steps 2 if " + test);
        // 0: not so; 2: so; 1: BROKEN, as "not" does not mend it.
        CHECK.due(test, x.of(0, 2), want);
    }

    private static void tests() {
        CHECK.part("TESTS");
        test("1=1", 2);
        test("1=2", 0);
        test("1<2", 2);
        test("2<2", 0);
        test("2>1", 2);
        test("2>2", 0);
        test("1/0=1", 1);
        test("1=1 or 1/0=1", 2);
        test("1/0=1 or 1=1", 1);
        test("1=2 or 1/0=1", 1);
        test("1=2 and 1/0=1", 0);
        test("1=1 and 1/0=1", 1);
        test("1/0=1 and 1=2", 1);
        test("1=1 or 1=2 and 1=2", 2);
        test("1=2 and 1=2 or 1=1", 2);
        test("(1=1 or 1=1) and 1=2", 0);
        test("not 1=2 and 1=1", 2);
        test("not not 1=2", 0);
        test("not (1=1 or 1/0=1)", 0);
        test("1=2 or 1=2 or 1=1 or 1/0=1", 2);
        test("1=1 and 1=1 and 1=2 and 1/0=1", 0);
        test("1+1=4-2", 2);
    }
}
