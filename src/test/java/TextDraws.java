import java.util.Random;

/** Draws TEXTS of either language, some with a slip of the pen. */
final class TextDraws {
    private static final String[] LAW_WORDS = {"person", "place", "length", "at", "letter", "new", "day", "mood"};
    private static final String[] ORDER_WORDS = {"day", "done", "latest", "breaks", "swaps", "who", "name"};
    private static final String[] STRAY = {";", "if", "(", ")", "[", "]", "+", "-", "*", "/", "%", "<", ">", "=", "not",
        "and", "or", "at", "to", "times", "1001", "0", "20", "who", "name", "pass", "bars", "strokes", "A", "\u0000", "\u00e9", "x"};

    private final Random random;
    private final boolean orders;
    private final StringBuilder text = new StringBuilder();

    TextDraws(Random random, boolean orders) {
        this.random = random;
        this.orders = orders;
    }

    String text() {
        int clauses = random.nextInt(20) == 0 ? 11 + random.nextInt(3) : 1 + random.nextInt(4);
        for (int i = 0; i < clauses; i++) {
            if (i > 0) {
                put(";");
            }
            clause();
        }
        if (random.nextInt(5) == 0) {
            slip();
        }
        if (text.length() > 400) {
            text.setLength(400);
        }
        return text.toString();
    }

    private void slip() {
        int at = random.nextInt(text.length() + 1);
        switch (random.nextInt(4)) {
            case 0:
                text.setLength(at);
                break;
            case 1:
                if (at < text.length()) {
                    text.deleteCharAt(at);
                }
                break;
            case 2:
                text.insert(at, " " + STRAY[random.nextInt(STRAY.length)] + " ");
                break;
            default:
                if (at < text.length()) {
                    text.setCharAt(at, (char) random.nextInt(256));
                }
                break;
        }
    }

    private void put(String token) {
        boolean glued = text.length() > 0 && same(text.charAt(text.length() - 1), token.charAt(0));
        if (glued || random.nextInt(3) > 0) {
            text.append(random.nextInt(30) == 0 ? "   " : text.length() == 0 ? "" : " ");
        }
        text.append(token);
    }

    private static boolean same(char a, char b) {
        return a >= 'a' && a <= 'z' && b >= 'a' && b <= 'z' || a >= '0' && a <= '9' && b >= '0' && b <= '9';
    }

    private void clause() {
        if (orders) {
            order();
        } else {
            int kind = random.nextInt(4);
            put(kind == 0 ? "bars" : kind == 1 ? "steps" : "strokes");
            if (kind > 0) {
                sum(0);
            }
        }
        if (random.nextInt(!orders && text.toString().endsWith("bars") ? 20 : 2) > 0 || random.nextInt(3) == 0) {
            put("if");
            test(0);
        }
    }

    private void order() {
        switch (random.nextInt(4)) {
            case 0:
                put("stroke");
                small(7);
                put("at");
                small(3);
                put("to");
                if (random.nextInt(3) == 0) {
                    sum(0);
                } else {
                    put(String.valueOf(1 + random.nextInt(5)));
                }
                break;
            case 1:
                put("swap");
                small(6);
                break;
            case 2:
                put("decree");
                small(4);
                break;
            default:
                put("pass");
                break;
        }
        if (random.nextInt(5) == 0) {
            put("times");
            put(String.valueOf(random.nextInt(15) == 0 ? random.nextInt(25) : 1 + random.nextInt(6)));
        }
    }

    private void small(int below) {
        switch (random.nextInt(6)) {
            case 0:
                put("who");
                put(String.valueOf(random.nextInt(7)));
                break;
            case 1:
                put("[");
                put("done");
                put("+");
                put("day");
                put("]");
                put("%");
                put(String.valueOf(below));
                break;
            case 2:
                sum(0);
                break;
            default:
                put(String.valueOf(random.nextInt(below)));
                break;
        }
    }

    private void test(int depth) {
        plain(depth);
        while (random.nextInt(3) == 0) {
            put(random.nextBoolean() ? "and" : "or");
            plain(depth);
        }
    }

    private void plain(int depth) {
        while (random.nextInt(6) == 0) {
            put("not");
        }
        if (depth < 10 && random.nextInt(5) == 0) {
            int more = random.nextInt(12) == 0 ? 5 + random.nextInt(4) : 1;
            for (int i = 0; i < more; i++) {
                put("(");
            }
            test(depth + more);
            for (int i = 0; i < more; i++) {
                put(")");
            }
            return;
        }
        sum(depth);
        put(String.valueOf("<>=".charAt(random.nextInt(3))));
        sum(depth);
    }

    private void sum(int depth) {
        part(depth);
        while (random.nextInt(3) == 0) {
            put(String.valueOf("+-*/%".charAt(random.nextInt(5))));
            part(depth);
        }
        if (random.nextInt(200) == 0) {
            int more = random.nextInt(60);
            for (int i = 0; i < more; i++) {
                put("+");
                part(9);
            }
        }
    }

    private void part(int depth) {
        if (depth < 10 && random.nextInt(7) == 0) {
            int more = random.nextInt(12) == 0 ? 5 + random.nextInt(4) : 1;
            for (int i = 0; i < more; i++) {
                put("[");
            }
            sum(depth + more);
            for (int i = 0; i < more; i++) {
                put("]");
            }
            return;
        }
        if (random.nextBoolean()) {
            int[] some = {0, 1, 2, 3, 4, 5, 6, 10, 20, 99, 100, 1000, 1000};
            put(String.valueOf(random.nextInt(60) == 0 ? random.nextInt(1200) : some[random.nextInt(some.length)]));
            return;
        }
        String word = orders ? ORDER_WORDS[random.nextInt(ORDER_WORDS.length)] : LAW_WORDS[random.nextInt(LAW_WORDS.length)];
        put(word);
        if (word.equals("who") || word.equals("name")) {
            put(String.valueOf(random.nextInt(random.nextInt(10) == 0 ? 9 : 7)));
        }
    }
}
