/** Terms II at their edges: TOKENS, how many of what a TEXT may have, what SUMS and TESTS come to. */
public final class EdgeTextTest {
    private static final Check CHECK = new Check();

    public static void main(String[] args) {
        byteBehindWord();
        byteBehindNumber();
        byteBehindSign();
        blanksBetween();
        longestRows();
        endIsTheLength();
        twelveClauses();
        thirteenthsFirstToken();
        numbersToThousand();
        fiftyParts();
        partsThatCountNot();
        partsOfTheWholeText();
        eightBrackets();
        bracketsBesideOneAnother();
        wholeTape();
        oneTextBehindAnother();
        manyNots();
        fromTheLeft();
        beyond();
        wrapsNowhere();
        dividedByZero();
        cutTowardsZero();
        whatIsLeft();
        orAsksOnlyIfItMatters();
        andAsksOnlyIfItMatters();
        notOfBroken();
        orAndAndTogether();
        comparisons();
        CHECK.finish();
    }

    private static void fault(boolean ofOrders, String text, int want) {
        LetterQuay x = Check.quay(1, 2);
        int answer = ofOrders ? Check.orders(x, text) : Check.law(x, text);
        CHECK.due("FAULT of '" + text + "'", x.fault(), want);
        CHECK.due("whether '" + text + "' is REFUSED by -6", answer == -6 ? 1 : 0, want == -1 ? 0 : 1);
    }

    // ---- TOKENS ----

    private static void byteBehindWord() {
        CHECK.sentence(0, "TOKENS: longest rows of letters a .. z, of digits, single other bytes, any blanks (32) between.");
        for (int value = 0; value < 256; value++) {
            int want = 4;
            if (value >= 'a' && value <= 'z') {
                want = 0;
            } else if (value == ' ') {
                want = -1;
            } else if (value == ';') {
                want = 5;
            }
            fault(false, "bars" + (char) value, want);
        }
    }

    private static void byteBehindNumber() {
        CHECK.sentence(0, "TOKENS: longest rows of letters a .. z, of digits, single other bytes, any blanks (32) between.");
        for (int value = 0; value < 256; value++) {
            int want = 7;
            if (value >= '0' && value <= '9' || value == ' ') {
                want = -1;
            } else if ("+-*/%;".indexOf(value) >= 0) {
                want = 8;
            }
            fault(false, "steps 1" + (char) value, want);
        }
    }

    private static void byteBehindSign() {
        CHECK.sentence(0, "single other bytes");
        for (String sign : new String[] {"<<", "==", "<=", "=>", "<>"}) {
            fault(false, "bars if 1" + sign + "1", 10);
        }
        fault(false, "steps 1++1", 8);
        fault(false, "steps 1--1", 8);
        fault(false, "steps[[1]]", -1);
        fault(false, "bars if((1=1))", -1);
        fault(false, "bars;;bars", 5);
    }

    private static void blanksBetween() {
        CHECK.sentence(0, "any blanks (32) between");
        fault(false, "  bars  if  1  =  1  ;  steps  2  ", -1);
        fault(false, "bars if1=1;steps2", -1);
        fault(false, "ba rs", 0);
        fault(false, "steps 1 0", 8);
        fault(true, "stroke0at0to2;swap0;pass times2if1=1", -1);
        fault(true, "passtimes 2", 0);
        fault(true, "pass times2 if1=1or2=2", -1);
        fault(true, "pass if who0=name0", -1);
        fault(true, "pass if who 0=name 0and 1=1", -1);
        fault(true, "pass if who 0=name 0 and1=1", -1);
        fault(true, "pass if who 0=name 0 andnot 1=1", 21);
    }

    private static void longestRows() {
        CHECK.sentence(0, "longest rows of letters a .. z, of digits");
        fault(false, "barsif 1=1", 0);
        fault(false, "bars iff 1=1", 5);
        fault(false, "stepss 1", 0);
        fault(false, "step 1", 0);
        fault(false, "steps 1day", 7);
        fault(false, "steps day1", 9);
        fault(false, "steps days", 6);
        fault(false, "steps 10001", 6);
        fault(true, "pass times 2if 1=1", -1);
        fault(true, "strokes 1 at 0 to 1", 0);
    }

    private static void endIsTheLength() {
        CHECK.sentence(0, "(the end's: the TEXT's length)");
        fault(false, "steps", 5);
        fault(false, "steps    ", 9);
        fault(false, "bars if (1=1", 12);
        fault(false, "bars if (1=1  ", 14);
        fault(true, "swap 0;", 7);
        fault(true, "swap 0; ", 8);
        fault(false, "steps" + " ".repeat(395), 400);
        fault(false, " ".repeat(399) + ";", 399);
    }

    // ---- how many ----

    private static void twelveClauses() {
        CHECK.sentence(0, "CLAUSE {\";\" CLAUSE}, 12 at most (FAULT at the 13th's first TOKEN)");
        fault(false, "bars" + ";bars".repeat(10), -1);
        fault(false, "bars" + ";bars".repeat(11), -1);
        fault(false, "bars" + ";bars".repeat(12), 60);
        fault(true, "pass" + ";pass".repeat(11), -1);
        fault(true, "pass" + ";pass".repeat(12), 60);
        LetterQuay x = Check.quay(1);
        CHECK.due("all twelve are run", Check.orders(x, "pass" + ";pass".repeat(11)), 12);
        CHECK.due("none of thirteen is run", Check.orders(x, "pass" + ";pass".repeat(12)), -6);
        CHECK.due("count(12)", x.count(12), 12);
        Check.force(x, "steps 5" + ";steps 6".repeat(10) + ";steps 7");
        CHECK.due("the twelfth is asked, too", x.of(0, 2), 7);
    }

    private static void thirteenthsFirstToken() {
        CHECK.sentence(0, "(FAULT at the 13th's first TOKEN)");
        String twelve = "bars" + ";bars".repeat(11);
        fault(false, twelve + "  ;  bars if", 64);
        fault(false, twelve + ";strokes", 60);
        fault(false, twelve + ";x", 60);
        fault(false, twelve + ";;", 60);
        fault(false, twelve + ";", 60);
        fault(false, twelve + ";   ", 63);
        fault(false, twelve + " bars", 60);
        fault(false, twelve + ";bars;bars", 60);
        fault(true, twelve.replace("bars", "pass") + ";swap 1001", 60);
    }

    private static void numbersToThousand() {
        CHECK.sentence(0, "PART: NUMBER (to 1,000)");
        fault(false, "steps 0", -1);
        fault(false, "steps 999", -1);
        fault(false, "steps 1000", -1);
        fault(false, "steps 1001", 6);
        fault(false, "steps 10000", 6);
        fault(false, "steps 4294967296", 6);
        fault(false, "steps 4294967297", 6);
        fault(false, "steps 18446744073709551617", 6);
        fault(false, "steps 00000000000000000000001000", -1);
        fault(false, "steps 00000000000000000000001001", 6);
        fault(false, "steps " + "0".repeat(394), -1);
        fault(false, "steps " + "9".repeat(394), 6);
        fault(false, "steps 1+1001", 8);
        fault(true, "swap 1001", 5);
        fault(true, "pass times 4294967297", 11);
        fault(true, "pass if who 4294967296 = 0", 12);
        fault(true, "pass if who 000 = name 006", -1);
        fault(true, "pass times 00020", -1);
        fault(true, "pass times 00000", 11);
    }

    private static void fiftyParts() {
        CHECK.sentence(0, "50 PARTS that are NUMBERS and words (FAULT at the 51st)");
        fault(false, "steps 1" + "+1".repeat(48), -1);
        fault(false, "steps 1" + "+1".repeat(49), -1);
        fault(false, "steps 1" + "+1".repeat(50), 6 + 100);
        fault(false, "steps at" + "*at".repeat(49), -1);
        fault(false, "steps at" + "*at".repeat(50), 6 + 150);
        fault(false, "steps 1" + "+1".repeat(49) + "+[day]", 6 + 101);
        fault(false, "steps 1" + "+1".repeat(49) + "+[[", 6 + 102);
        fault(false, "steps 1" + "+1".repeat(49) + "+", 6 + 100);
        fault(false, "steps 1" + "+1".repeat(49) + " if 1=1", 6 + 99 + 4);
        fault(false, "bars if 1" + "+1".repeat(48) + "=1", -1);
        fault(false, "bars if 1" + "+1".repeat(49) + "=1", 8 + 99 + 1);
        fault(true, "swap 0" + "*1".repeat(49), -1);
        fault(true, "swap 0" + "*1".repeat(50), 5 + 100);
        fault(true, "swap day" + "*day".repeat(49), -1);
        fault(true, "swap day" + "*day".repeat(50), 5 + 200);
        LetterQuay x = Check.quay(1);
        Check.force(x, "steps 1" + "+1".repeat(49));
        CHECK.due("all fifty are asked", x.of(0, 2), 50);
    }

    private static void partsThatCountNot() {
        CHECK.sentence(0, "L, P, TIMES aside, NUMBERS and words count as PARTS.");
        fault(true, "swap who 1" + "*who 1".repeat(49), -1);
        fault(true, "swap who 1" + "*who 1".repeat(50), 5 + 300);
        fault(true, "swap name 1" + "*name 1".repeat(49), -1);
        fault(true, "swap name 1" + "*name 1".repeat(50), 5 + 350);
        String passes = "pass times 20;".repeat(11);
        fault(true, passes + "swap 0" + "*1".repeat(49), -1);
        fault(true, passes + "swap 0" + "*1".repeat(50), passes.length() + 5 + 100);
        fault(false, "steps [[[1]]]" + "+[1]".repeat(49), -1);
    }

    private static void partsOfTheWholeText() {
        CHECK.sentence(0, "50 PARTS that are NUMBERS and words (FAULT at the 51st)");
        String half = "steps 1" + "+1".repeat(24);
        fault(false, half + ";" + half, -1);
        fault(false, half + ";" + half + "+1", 2 * half.length() + 2);
        fault(false, half + ";" + half + ";steps day", 2 * half.length() + 2 + 6);
        fault(false, half + ";" + half + ";bars", -1);
        fault(true, "stroke 0*1 at 0*1 to 2" + "*1".repeat(45), -1);
        fault(true, "stroke 0*1 at 0*1 to 2" + "*1".repeat(46), 22 + 90 + 1);
    }

    private static String nested(String open, int n, String within, String close) {
        return open.repeat(n) + within + close.repeat(n);
    }

    private static void eightBrackets() {
        CHECK.sentence(0, "8 brackets of both kinds within one another (FAULT at the 9th) at most");
        fault(false, "steps " + nested("[", 8, "1", "]"), -1);
        fault(false, "steps " + nested("[", 9, "1", "]"), 6 + 8);
        fault(false, "bars if " + nested("(", 8, "1=1", ")"), -1);
        fault(false, "bars if " + nested("(", 9, "1=1", ")"), 8 + 8);
        for (int round = 0; round <= 9; round++) {
            String fits = nested("(", round, nested("[", 8 - Math.min(round, 8), "1", "]") + "=1", ")");
            String deep = nested("(", round, nested("[", 9 - round, "1", "]") + "=1", ")");
            fault(false, "bars if " + fits, round == 9 ? 8 + 8 : -1);
            fault(false, "bars if " + deep, 8 + 8);
        }
        fault(false, "steps [1+[1+[1+[1+[1+[1+[1+[1+[1]]]]]]]]]", 6 + 24);
        fault(false, "bars if not (not (not (not (not (not (not (not (not (1=1)))))))))", 8 + 4 + 40);
        fault(true, "swap " + nested("[", 8, "0", "]"), -1);
        fault(true, "swap " + nested("[", 9, "0", "]"), 5 + 8);
        LetterQuay x = Check.quay(1);
        Check.force(x, "steps " + "[2+3*".repeat(8) + "1" + "]".repeat(8) + "/100");
        // f(n) = 2 + 3 f(n - 1) from 1 is 2 * 3 to the n, less 1: 13121.
        CHECK.due("all eight are asked", x.of(0, 2), 99);
        Check.force(x, "steps " + "[2+3*".repeat(8) + "1" + "]".repeat(8) + "-13100");
        CHECK.due("FAULT of 13100", x.fault(), 6 + 40 + 1 + 8 + 1);
        Check.force(x, "steps " + "[2+3*".repeat(8) + "1" + "]".repeat(8) + "-13*1000-100");
        CHECK.due("all eight are asked", x.of(0, 2), 21);
        Check.force(x, "bars if " + nested("(0=1 or ", 8, "1=1", ")"));
        CHECK.due("all eight are asked", x.of(0, 3), 1);
    }

    private static void bracketsBesideOneAnother() {
        CHECK.sentence(0, "8 brackets of both kinds within one another");
        String eight = nested("[", 8, "1", "]");
        fault(false, "steps " + eight + "+" + eight + "+" + eight, -1);
        fault(false, "steps [1]" + "+[1]".repeat(20), -1);
        fault(false, "bars if " + nested("(", 8, "1=1", ")") + " or " + nested("(", 8, "1=1", ")"), -1);
        fault(false, "bars if " + eight + "=" + eight + " and (1=1)", -1);
        fault(false, "bars if " + nested("(", 8, "1=1", ")") + " or " + nested("(", 9, "1=1", ")"), 8 + 19 + 4 + 8);
        fault(false, "steps " + eight + ";steps " + eight, -1);
    }

    private static void wholeTape() {
        CHECK.sentence(0, "TEXTS are on a TAPE of at most 400 bytes.");
        fault(false, " ".repeat(396) + "bars", -1);
        fault(false, "bars" + " ".repeat(396), -1);
        fault(false, " ".repeat(397) + "bar", 397);
        fault(false, "x".repeat(400), 0);
        fault(false, "+".repeat(400), 0);
        fault(false, "bars if " + "(".repeat(392), 16);
        fault(false, "steps " + "[".repeat(394), 14);
        fault(true, ";".repeat(400), 0);
        fault(true, "pass if " + "not".repeat(130), 8);
    }

    /** Long ones, with a FAULT and without, many times over: none leaves anything behind for the next one. */
    private static void oneTextBehindAnother() {
        CHECK.sentence(0, "50 PARTS that are NUMBERS and words (FAULT at the 51st)");
        LetterQuay x = Check.quay(1, 2);
        String fifty = "decree 0" + "*1".repeat(24) + " if 1" + "+1".repeat(23) + "=24";
        for (int n = 0; n < 12; n++) {
            CHECK.due("orders() of fifty", Check.orders(x, fifty), 1);
            CHECK.due("orders() of one more", Check.orders(x, fifty + "+1"), -6);
            CHECK.due("fault()", x.fault(), fifty.length() + 1);
        }
        for (int n = 0; n < 6; n++) {
            Check.force(x, "steps " + n + "+1".repeat(49));
            CHECK.due("of(0, 2)", x.of(0, 2), n + 49);
        }
        for (int n = 0; n < 6; n++) {
            x.force(n);
            CHECK.due("of(0, 2) by LAW " + n, x.of(0, 2), n + 49);
        }
    }

    private static void manyNots() {
        CHECK.sentence(0, "PLAIN: \"not\" PLAIN");
        LetterQuay x = Check.quay(1);
        Check.force(x, "bars if " + "not ".repeat(97) + "1=1");
        CHECK.due("97 of them, the TAPE is nearly full", x.of(0, 3), 0);
        Check.force(x, "bars if " + "not ".repeat(96) + "1=1");
        CHECK.due("96 of them", x.of(0, 3), 1);
        fault(false, "bars if " + "not ".repeat(98), 400);
    }

    // ---- SUMS ----

    /** What a STEP costs that the SUM tells, 77 if it is BROKEN. */
    private static void sum(String sum, int want) {
        LetterQuay x = Check.quay(1);
        Check.force(x, "steps 77; steps " + sum);
        CHECK.due(sum, x.of(0, 2), want);
    }

    private static void fromTheLeft() {
        CHECK.sentence(0, "SUM: TERM {(\"+\" | \"-\") TERM}. TERM: PART {(\"*\" | \"/\" | \"%\") PART}.");
        sum("50-20-10", 20);
        sum("50-20+10", 40);
        sum("100/10/5", 2);
        sum("100/10*5", 50);
        sum("7*8%5", 1);
        sum("7+8%5", 10);
        sum("50-2*3*4", 26);
        sum("2*3+4*5", 26);
        sum("90%7*9/6", 9);
        CHECK.sentence(0, "PART: NUMBER (to 1,000) | \"[\" SUM \"]\" | a word, as told.");
        sum("50-[20-10]", 40);
        sum("100/[10/5]", 50);
        sum("7*[8%5]", 21);
        sum("[[[9]]]", 9);
        sum("length", 1);
    }

    private static void beyond() {
        CHECK.sentence(0, "Beyond 1,000,000,000 either way, or divided by 0");
        String most = "1000*1000*1000";
        sum("[" + most + "]/1000/1000/100", 10);
        sum("[" + most + "+0]*0+5", 5);
        sum("[" + most + "+1]*0+5", 77);
        sum("[1+" + most + "]*0+5", 77);
        sum("[" + most + "-0]*0+5", 5);
        sum("[" + most + "-[0-1]]*0+5", 77);
        sum("[0-" + most + "]*0+5", 5);
        sum("[0-" + most + "-1]*0+5", 77);
        sum("[0-1-" + most + "]*0+5", 77);
        sum("[0-" + most + "+[0-1]]*0+5", 77);
        sum("[1000*1000*[1000-1]+1000*1000]*0+5", 5);
        sum("[1000*1000*[1000+1]]*0+5", 77);
        sum("[1000*1000*[0-1000]]*0+5", 5);
        sum("[1000*1000*[0-1000-1]]*0+5", 77);
        sum("[0-1000]*[0-1000]*1000/1000/1000/100", 10);
        CHECK.part("a SUM is BROKEN though its end would not be");
        sum(most + "+1-1000", 77);
        sum(most + "*2/1000/1000/100", 77);
        sum("1-1+" + most + "*1000*0", 77);
    }

    private static void wrapsNowhere() {
        CHECK.sentence(0, "Beyond 1,000,000,000 either way");
        String most = "1000*1000*1000";
        // By 32 bits these would come to 705032704, 0, -294967296 and 1, by 64 bits 1e18 times 1e18 to what is left.
        sum("[" + most + "*5]*0+5", 77);
        sum("[" + most + "*[1000+24]*4]*0+5", 77);
        sum("[" + most + "*4]*0+5", 77);
        sum("[" + most + "]*[" + most + "]*0+5", 77);
        sum("[" + most + "]*[0-" + most + "]*0+5", 77);
        sum("[" + most + "+" + most + "]*0+5", 77);
        sum("[0-" + most + "-" + most + "]*0+5", 77);
    }

    private static void dividedByZero() {
        CHECK.sentence(0, "or divided by 0");
        sum("5/0", 77);
        sum("5%0", 77);
        sum("0/0", 77);
        sum("0%0", 77);
        sum("5/[3-3]", 77);
        sum("5%[3-3]", 77);
        sum("5/[1/2]", 77);
        sum("0*[1/0]", 77);
        sum("5/0*0", 77);
        sum("5/1", 5);
        sum("0/5+3", 3);
        sum("0%5+3", 3);
    }

    private static void cutTowardsZero() {
        CHECK.sentence(0, "(/ cut towards 0, % what is left then)");
        sum("7/2+50", 53);
        sum("[0-7]/2+50", 47);
        sum("7/[0-2]+50", 47);
        sum("[0-7]/[0-2]+50", 53);
        sum("1/2+50", 50);
        sum("[0-1]/2+50", 50);
        sum("6/3+50", 52);
        sum("[0-6]/3+50", 48);
    }

    private static void whatIsLeft() {
        CHECK.sentence(0, "% what is left then");
        sum("7%2+50", 51);
        sum("[0-7]%2+50", 49);
        sum("7%[0-2]+50", 51);
        sum("[0-7]%[0-2]+50", 49);
        sum("[0-6]%3+50", 50);
        sum("[0-1]%5+50", 49);
        sum("5%5+50", 50);
        sum("4%5+50", 54);
    }

    // ---- TESTS ----

    private static final String[] PLAIN = {"1=2", "1/0=1", "1=1"};
    private static final int NOT_SO = 0;
    private static final int BROKEN = 1;
    private static final int SO = 2;

    private static void test(String test, int want) {
        LetterQuay x = Check.quay(1);
        Check.force(x, "steps 1; steps 0 if not (" + test + "); steps 2 if " + test);
        CHECK.due(test, x.of(0, 2), want);
    }

    private static void orAsksOnlyIfItMatters() {
        CHECK.sentence(0, "(\"or\", \"and\" ask what stands behind only if it can still matter)");
        for (int left = NOT_SO; left <= SO; left++) {
            for (int right = NOT_SO; right <= SO; right++) {
                test(PLAIN[left] + " or " + PLAIN[right], left == NOT_SO ? right : left);
            }
        }
        test("1=2 or 1=2 or 1=1 or 1/0=1", SO);
        test("1=2 or 1/0=1 or 1=1", BROKEN);
        test("1=1 or 1/0=1 or 1/0=1", SO);
        test("(1=2 or 1=1) or 1/0=1", SO);
        test("1=2 or (1=1 or 1/0=1)", SO);
    }

    private static void andAsksOnlyIfItMatters() {
        CHECK.sentence(0, "(\"or\", \"and\" ask what stands behind only if it can still matter)");
        for (int left = NOT_SO; left <= SO; left++) {
            for (int right = NOT_SO; right <= SO; right++) {
                test(PLAIN[left] + " and " + PLAIN[right], left == SO ? right : left);
            }
        }
        test("1=1 and 1=2 and 1/0=1", NOT_SO);
        test("1=1 and 1/0=1 and 1=2", BROKEN);
        test("1=2 and 1/0=1 and 1/0=1", NOT_SO);
    }

    private static void notOfBroken() {
        CHECK.sentence(0, "a SUM, a TEST is BROKEN");
        for (int plain = NOT_SO; plain <= SO; plain++) {
            test("not " + PLAIN[plain], SO - plain);
            test("not not " + PLAIN[plain], plain);
            test("(" + PLAIN[plain] + ")", plain);
        }
        test("1=1/0", BROKEN);
        test("1/0=1/0", BROKEN);
        test("1000*1000*1000+1>0", BROKEN);
        test("0<1000*1000*1000+1", BROKEN);
    }

    private static void orAndAndTogether() {
        CHECK.sentence(0, "TEST: BOTH {\"or\" BOTH}. BOTH: PLAIN {\"and\" PLAIN}.");
        for (int one = NOT_SO; one <= SO; one++) {
            for (int two = NOT_SO; two <= SO; two++) {
                for (int three = NOT_SO; three <= SO; three++) {
                    int both = one == SO ? two : one;
                    test(PLAIN[one] + " and " + PLAIN[two] + " or " + PLAIN[three], both == NOT_SO ? three : both);
                    int last = two == SO ? three : two;
                    test(PLAIN[one] + " or " + PLAIN[two] + " and " + PLAIN[three], one == NOT_SO ? last : one);
                    int first = one == NOT_SO ? two : one;
                    test("(" + PLAIN[one] + " or " + PLAIN[two] + ") and " + PLAIN[three], first == SO ? three : first);
                    test("not " + PLAIN[one] + " and " + PLAIN[two], one == NOT_SO ? two : SO - one);
                }
            }
        }
    }

    private static void comparisons() {
        CHECK.sentence(0, "SUM (\"<\" | \">\" | \"=\") SUM");
        for (int right = 4; right <= 6; right++) {
            test("5<" + right, 5 < right ? SO : NOT_SO);
            test("5>" + right, 5 > right ? SO : NOT_SO);
            test("5=" + right, 5 == right ? SO : NOT_SO);
        }
        test("0-1000*1000*1000<1000*1000*1000", SO);
        test("1000*1000*1000<0-1000*1000*1000", NOT_SO);
        test("1000*1000*1000=1000*1000*1000", SO);
        test("0-1<0", SO);
    }
}
