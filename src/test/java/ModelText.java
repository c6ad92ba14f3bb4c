import java.util.ArrayList;
import java.util.Arrays;
import java.util.List;
import java.util.regex.Matcher;
import java.util.regex.Pattern;

/** Both languages once more, as a tree with exceptions, for Model. */
final class ModelText {
    static final class Fault extends RuntimeException {
        private static final long serialVersionUID = 1L;
        final int place;

        Fault(int place) {
            this.place = place;
        }
    }

    static final class Broken extends RuntimeException {
        private static final long serialVersionUID = 1L;
    }

    interface Sum {
        long value(long[] words);
    }

    interface Test {
        boolean so(long[] words);
    }

    static final class Clause {
        String kind;
        int times = 1;
        final List<Sum> sums = new ArrayList<>();
        Test test = w -> true;

        boolean so(long[] words) {
            try {
                return test.so(words);
            } catch (Broken e) {
                return false;
            }
        }
    }

    private static final List<String> LAW_WORDS = Arrays.asList("person", "place", "length", "at", "letter", "new", "day", "mood");
    private static final List<String> ORDER_WORDS = Arrays.asList("day", "done", "latest", "breaks", "swaps");

    final List<Clause> clauses = new ArrayList<>();
    private final List<String> tokens = new ArrayList<>();
    private final List<Integer> places = new ArrayList<>();
    private final boolean orders;
    private int at = 0;
    private int parts = 0;

    private ModelText(String text, boolean orders) {
        this.orders = orders;
        Matcher m = Pattern.compile("[a-z]+|[0-9]+|[^ ]", Pattern.DOTALL).matcher(text);
        while (m.find()) {
            tokens.add(m.group());
            places.add(m.start());
        }
        tokens.add("");
        places.add(text.length());
    }

    static ModelText read(String text, boolean orders) {
        ModelText t = new ModelText(text, orders);
        while (true) {
            if (t.clauses.size() == 12) {
                throw t.wrong();
            }
            t.clauses.add(orders ? t.order() : t.rule());
            if (t.is("")) {
                return t;
            }
            t.must(";");
        }
    }

    private Fault wrong() {
        return new Fault(places.get(at));
    }

    private boolean is(String token) {
        return tokens.get(at).equals(token);
    }

    private boolean take(String token) {
        if (is(token)) {
            at++;
            return true;
        }
        return false;
    }

    private void must(String token) {
        if (!take(token)) {
            throw wrong();
        }
    }

    private int number(int low, int high) {
        String t = tokens.get(at);
        if (!t.matches("[0-9]+")) {
            throw wrong();
        }
        java.math.BigInteger n = new java.math.BigInteger(t);
        if (n.compareTo(java.math.BigInteger.valueOf(low)) < 0 || n.compareTo(java.math.BigInteger.valueOf(high)) > 0) {
            throw wrong();
        }
        at++;
        return n.intValue();
    }

    private Clause rule() {
        Clause c = new Clause();
        c.kind = tokens.get(at);
        if (take("strokes") || take("steps")) {
            c.sums.add(sum(0));
        } else {
            must("bars");
        }
        if (take("if")) {
            c.test = test(0);
        }
        return c;
    }

    private Clause order() {
        Clause c = new Clause();
        c.kind = tokens.get(at);
        if (take("stroke")) {
            c.sums.add(sum(0));
            must("at");
            c.sums.add(sum(0));
            must("to");
            c.sums.add(sum(0));
        } else if (take("swap") || take("decree")) {
            c.sums.add(sum(0));
        } else {
            must("pass");
        }
        if (take("times")) {
            c.times = number(1, 20);
        }
        if (take("if")) {
            c.test = test(0);
        }
        return c;
    }

    private Test test(int depth) {
        Test one = both(depth);
        while (take("or")) {
            Test left = one;
            Test right = both(depth);
            one = w -> left.so(w) || right.so(w);
        }
        return one;
    }

    private Test both(int depth) {
        Test one = plain(depth);
        while (take("and")) {
            Test left = one;
            Test right = plain(depth);
            one = w -> left.so(w) && right.so(w);
        }
        return one;
    }

    private Test plain(int depth) {
        if (take("not")) {
            Test inner = plain(depth);
            return w -> !inner.so(w);
        }
        if (is("(")) {
            if (depth == 8) {
                throw wrong();
            }
            at++;
            Test inner = test(depth + 1);
            must(")");
            return inner;
        }
        Sum left = sum(depth);
        String sign = tokens.get(at);
        if (!sign.equals("<") && !sign.equals(">") && !sign.equals("=")) {
            throw wrong();
        }
        at++;
        Sum right = sum(depth);
        return w -> {
            int c = Long.compare(left.value(w), right.value(w));
            return sign.equals("<") ? c < 0 : sign.equals(">") ? c > 0 : c == 0;
        };
    }

    private static long within(long v) {
        if (Math.abs(v) > 1_000_000_000L) {
            throw new Broken();
        }
        return v;
    }

    private static long divisor(long v) {
        if (v == 0) {
            throw new Broken();
        }
        return v;
    }

    private Sum sum(int depth) {
        Sum one = term(depth);
        while (is("+") || is("-")) {
            Sum left = one;
            boolean plus = is("+");
            at++;
            Sum right = term(depth);
            one = w -> within(plus ? left.value(w) + right.value(w) : left.value(w) - right.value(w));
        }
        return one;
    }

    private Sum term(int depth) {
        Sum one = part(depth);
        while (is("*") || is("/") || is("%")) {
            Sum left = one;
            String sign = tokens.get(at);
            at++;
            Sum right = part(depth);
            if (sign.equals("*")) {
                one = w -> within(left.value(w) * right.value(w));
            } else if (sign.equals("/")) {
                one = w -> left.value(w) / divisor(right.value(w));
            } else {
                one = w -> left.value(w) % divisor(right.value(w));
            }
        }
        return one;
    }

    private Sum part(int depth) {
        if (is("[")) {
            if (depth == 8) {
                throw wrong();
            }
            at++;
            Sum inner = sum(depth + 1);
            must("]");
            return inner;
        }
        if (parts == 50) {
            throw wrong();
        }
        parts++;
        if (tokens.get(at).matches("[0-9]+")) {
            int n = number(0, 1000);
            return w -> n;
        }
        if (orders && (is("who") || is("name"))) {
            int first = is("who") ? 5 : 12;
            at++;
            int n = first + number(0, 6);
            return w -> w[n];
        }
        int word = (orders ? ORDER_WORDS : LAW_WORDS).indexOf(tokens.get(at));
        if (word < 0) {
            throw wrong();
        }
        at++;
        return w -> w[word];
    }
}
