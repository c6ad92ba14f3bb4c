import java.util.ArrayList;
import java.util.Arrays;
import java.util.List;

/** Terms II: behind each beginning of a TEXT every TOKEN is tried; those that can't go on there must be the FAULT. */
public final class EdgeGrammarTest {
    private static final Check CHECK = new Check();

    private static final String LAW_PART = "person place length at letter new day mood 0 1 20 21 1000 [";
    private static final String ORDER_PART = "day done latest breaks swaps who name 0 1 20 21 1000 [";
    private static final String SIGNS = "+ - * / %";
    private static final String COMPARE = "< > =";
    private static final String LAW_CLAUSE = "strokes steps bars";
    private static final String ORDER_CLAUSE = "stroke swap decree pass";
    /** The end is written as a dot, which no TEXT here has. */
    private static final String END = ".";
    private static final String ALL = "person place length at letter new day mood done latest breaks swaps who name strokes steps bars "
        + "stroke swap decree pass to times if or and not ; ( ) [ ] + - * / % < > = 0 1 20 21 1000 1001 x ifs fi , ! # A .";

    public static void main(String[] args) {
        laws();
        lawTests();
        orders();
        orderTests();
        countsOfOrders();
        CHECK.finish();
    }

    private static int faultOf(boolean ofOrders, String text) {
        LetterQuay x = new LetterQuay();
        int answer = ofOrders ? Check.orders(x, text) : Check.law(x, text);
        CHECK.due("whether '" + text + "' is REFUSED by -6", answer == -6 ? 1 : 0, x.fault() == -1 ? 0 : 1);
        return x.fault();
    }

    private static void follow(boolean ofOrders, String head, String... allowed) {
        List<String> fine = new ArrayList<>();
        for (String some : allowed) {
            fine.addAll(Arrays.asList(some.split(" ")));
        }
        String start = head.isEmpty() ? "" : head + " ";
        for (String token : ALL.split(" ")) {
            boolean end = token.equals(END);
            int fault = faultOf(ofOrders, end ? start : start + token);
            boolean here = fault == start.length();
            CHECK.due("whether '" + token + "' is the FAULT behind '" + head + "'", here ? 1 : 0, fine.contains(token) ? 0 : 1);
            CHECK.so("the FAULT of '" + start + token + "' is not ahead of it", fault == -1 || fault >= start.length());
        }
    }

    private static void laws() {
        CHECK.sentence(0, "FAULT: the first TOKEN that can't go on there (the end's: the TEXT's length).");
        CHECK.sentence(0, "LAWS, 6 at most; one is in FORCE (NONE at first: no CLAUSE): CLAUSE: ((\"strokes\" | \"steps\") SUM | \"bars\") [\"if\" TEST].");
        follow(false, "", LAW_CLAUSE);
        follow(false, "bars ;", LAW_CLAUSE);
        follow(false, "bars", "if ;", END);
        for (String head : new String[] {"strokes", "steps"}) {
            follow(false, head, LAW_PART);
            follow(false, head + " 1", SIGNS, "if ;", END);
            follow(false, head + " mood", SIGNS, "if ;", END);
            follow(false, head + " [", LAW_PART);
            follow(false, head + " [ 1", SIGNS, "]");
            follow(false, head + " [ 1 ]", SIGNS, "if ;", END);
            follow(false, head + " 1 if 1 = 1 ;", LAW_CLAUSE);
        }
        for (String sign : SIGNS.split(" ")) {
            follow(false, "steps 1 " + sign, LAW_PART);
            follow(false, "steps 1 " + sign + " 1", SIGNS, "if ;", END);
            follow(false, "steps [ at " + sign, LAW_PART);
            follow(false, "steps [ at " + sign + " at", SIGNS, "]");
        }
    }

    private static void lawTests() {
        CHECK.sentence(0, "TEST: BOTH {\"or\" BOTH}. BOTH: PLAIN {\"and\" PLAIN}. PLAIN: \"not\" PLAIN | \"(\" TEST \")\" | SUM (\"<\" | \">\" | \"=\") SUM.");
        for (String head : new String[] {"bars", "strokes 1", "steps at"}) {
            follow(false, head + " if", LAW_PART, "not (");
        }
        follow(false, "bars if not", LAW_PART, "not (");
        follow(false, "bars if not not", LAW_PART, "not (");
        follow(false, "bars if (", LAW_PART, "not (");
        follow(false, "bars if 1", SIGNS, COMPARE);
        follow(false, "bars if ( 1", SIGNS, COMPARE);
        follow(false, "bars if [ 1", SIGNS, "]");
        follow(false, "bars if [ 1 ]", SIGNS, COMPARE);
        for (String compare : COMPARE.split(" ")) {
            follow(false, "bars if 1 " + compare, LAW_PART);
            follow(false, "bars if 1 " + compare + " 1", SIGNS, "and or ;", END);
            follow(false, "bars if ( 1 " + compare + " 1", SIGNS, "and or )");
            follow(false, "bars if not 1 " + compare + " [ 1 ]", SIGNS, "and or ;", END);
        }
        follow(false, "bars if ( 1 = 1 )", "and or ;", END);
        follow(false, "bars if ( ( 1 = 1 )", "and or )");
        follow(false, "bars if not ( 1 = 1 )", "and or ;", END);
        for (String joined : new String[] {"and", "or"}) {
            follow(false, "bars if 1 = 1 " + joined, LAW_PART, "not (");
            follow(false, "bars if 1 = 1 " + joined + " 1", SIGNS, COMPARE);
            follow(false, "bars if 1 = 1 " + joined + " 1 = 1", SIGNS, "and or ;", END);
        }
    }

    private static void orders() {
        CHECK.sentence(0, "ORDERS: CLAUSE: (\"stroke\" SUM \"at\" SUM \"to\" SUM | \"swap\" SUM | \"decree\" SUM | \"pass\") [\"times\" TIMES] [\"if\" TEST].");
        follow(true, "", ORDER_CLAUSE);
        follow(true, "pass ;", ORDER_CLAUSE);
        follow(true, "stroke", ORDER_PART);
        follow(true, "stroke 1", SIGNS, "at");
        follow(true, "stroke 1 at", ORDER_PART);
        follow(true, "stroke 1 at 1", SIGNS, "to");
        follow(true, "stroke 1 at 1 to", ORDER_PART);
        for (String head : new String[] {"stroke 1 at 1 to 1", "swap 1", "decree 1", "swap who 1", "decree name 1", "swap [ 1 ]"}) {
            follow(true, head, SIGNS, "times if ;", END);
            follow(true, head + " *", ORDER_PART);
            follow(true, head + " times 1", "if ;", END);
            follow(true, head + " times 1 ;", ORDER_CLAUSE);
        }
        follow(true, "swap", ORDER_PART);
        follow(true, "swap [", ORDER_PART);
        follow(true, "swap [ day", SIGNS, "]");
        follow(true, "decree", ORDER_PART);
        follow(true, "pass", "times if ;", END);
    }

    private static void orderTests() {
        CHECK.sentence(0, "Of both languages: CLAUSE {\";\" CLAUSE}, 12 at most");
        for (String head : new String[] {"pass", "pass times 1", "swap 1", "stroke 0 at 0 to 1 times 2"}) {
            follow(true, head + " if", ORDER_PART, "not (");
            follow(true, head + " if not", ORDER_PART, "not (");
            follow(true, head + " if 1", SIGNS, COMPARE);
            follow(true, head + " if 1 >", ORDER_PART);
            follow(true, head + " if 1 > 1", SIGNS, "and or ;", END);
            follow(true, head + " if ( done = latest", SIGNS, "and or )");
            follow(true, head + " if 1 > 1 or", ORDER_PART, "not (");
        }
    }

    private static void countsOfOrders() {
        CHECK.sentence(0, "TIMES: a NUMBER 1 .. 20.");
        follow(true, "pass times", "1 20");
        follow(true, "swap 0 times", "1 20");
        CHECK.sentence(0, "(L: a NUMBER 0 .. 6, a PLACE; P: 0 .. 6)");
        follow(true, "swap who", "0 1");
        follow(true, "pass if 1 = name", "0 1");
        for (int n = 0; n <= 30; n++) {
            CHECK.due("FAULT of pass times " + n, faultOf(true, "pass times " + n), n >= 1 && n <= 20 ? -1 : 11);
            CHECK.due("FAULT of who " + n, faultOf(true, "pass if who " + n + " = 0"), n <= 6 ? -1 : 12);
            CHECK.due("FAULT of name " + n, faultOf(true, "pass if name " + n + " = 0"), n <= 6 ? -1 : 13);
        }
    }
}
