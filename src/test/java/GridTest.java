import java.lang.reflect.Method;
import java.nio.charset.StandardCharsets;
import java.util.Arrays;

/**
 * Every call of the face but feed with every number about its edges, in states from empty to full, held against Model:
 * what it answers, status() and all counts.
 */
public final class GridTest {
    private static final Check CHECK = new Check();
    private static final int MIN = Integer.MIN_VALUE;
    private static final int MAX = Integer.MAX_VALUE;
    private static final int[] ONE = {MIN, MIN + 1, -5556, -3, -2, -1, 0, 1, 2, 3, 4, 5, 6, 7, 8, 9, 10, 11, 12, 13, 14, 15, 16, 19, 20, 21,
        22, 50, 55, 56, 59, 60, 61, 98, 99, 100, 111, 119, 120, 121, 400, 555, 556, 998, 999, 1000, 1001, 1111, 5555, 5556, 9999,
        11111, 55555, 999_999, 1_000_000, 1_000_001, MAX - 1, MAX};
    private static final int[] TWO = {MIN, -2, -1, 0, 1, 2, 3, 6, 7, 8, 9, 10, 11, 19, 20, 21, 59, 60, 61, 98, 99, 100, 998, 999, 1000,
        999_999, 1_000_000, 1_000_001, MAX};
    private static final int[] THREE = {MIN, -1, 0, 1, 2, 3, 4, 5, 6, 7, MAX};

    private LetterQuay quay;
    private Model model;
    private int wrong = 0;
    private long compared = 0;

    public static void main(String[] args) throws Exception {
        GridTest test = new GridTest();
        for (int state = 0; state < 4; state++) {
            test.allCalls(state);
        }
        System.out.println(test.compared + " calls were held against Model");
        CHECK.due("how many are answered otherwise", test.wrong, 0);
        CHECK.so("a great many were held", test.compared > 50_000);
        CHECK.finish();
    }

    private void allCalls(int state) throws Exception {
        Method[] methods = LetterQuay.class.getDeclaredMethods();
        Arrays.sort(methods, (a, b) -> a.getName().compareTo(b.getName()));
        for (Method method : methods) {
            int arity = method.getParameterCount();
            if (java.lang.reflect.Modifier.isPublic(method.getModifiers()) && arity < 5) {
                Method other = Model.class.getDeclaredMethod(method.getName(), method.getParameterTypes());
                grid(state, method, other, new Object[arity], 0);
            }
        }
    }

    private void grid(int state, Method method, Method other, Object[] given, int at) throws Exception {
        if (at == given.length) {
            make(state);
            hold(state, method, other, given);
            return;
        }
        int[] values = given.length == 1 ? ONE : given.length == 2 ? TWO : THREE;
        for (int value : values) {
            given[at] = value;
            grid(state, method, other, given, at + 1);
        }
    }

    private void hold(int state, Method method, Method other, Object[] given) throws Exception {
        String call = method.getName() + Arrays.toString(given) + " in state " + state;
        long got = ((Number) method.invoke(quay, given)).longValue();
        long want = ((Number) other.invoke(model, given)).longValue();
        same(call, got, want);
        same("status() behind " + call, quay.status(), model.status());
        for (int what = 0; what < 15; what++) {
            same("count(" + what + ") behind " + call, quay.count(what), model.count(what));
        }
    }

    private void same(String call, long got, long want) {
        compared++;
        if (got != want) {
            wrong++;
            if (wrong <= 20) {
                System.out.println(call + " answered " + got + ", due is " + want);
            }
        }
    }

    /** 0: empty; 1: two, and a TAPE that is a LAW; 2: four, a LAW in FORCE; 3: seven, the last DAY but one, no room. */
    private void make(int state) {
        quay = new LetterQuay();
        model = new Model();
        int[][] names = {{}, {21, 2}, {2134, 5, 12, 12}, {5, 4, 33, 3, 2, 11, 1}};
        for (int name : names[state]) {
            quay.person(name);
            model.person(name);
        }
        if (state >= 2) {
            text("strokes at+new;bars if person=1");
            quay.law();
            model.law();
            for (int n = 0; n < (state == 2 ? 3 : 8); n++) {
                quay.heard(n % 3, n % 3 + 1);
                model.heard(n % 3, n % 3 + 1);
            }
            quay.force(0);
            model.force(0);
            quay.terms(0, state == 2 ? 7 : 997);
            model.terms(0, state == 2 ? 7 : 997);
            quay.image(1);
            model.image(1);
            quay.pass();
            model.pass();
            quay.swap(1);
            model.swap(1);
        }
        if (state > 0) {
            text(state == 1 ? "bars;steps 2" : state == 2 ? "pass times 2;decree 1" : "pass; swap 6");
        }
    }

    private void text(String text) {
        byte[] bytes = Arrays.copyOf(text.getBytes(StandardCharsets.ISO_8859_1), 40);
        int[] fours = new int[10];
        for (int k = 0; k < 40; k++) {
            fours[k / 4] = fours[k / 4] << 8 | bytes[k] & 255;
        }
        for (int f = 0; f < 10; f += 5) {
            quay.feed(fours[f], fours[f + 1], fours[f + 2], fours[f + 3], fours[f + 4]);
            model.feed(fours[f], fours[f + 1], fours[f + 2], fours[f + 3], fours[f + 4]);
        }
        quay.end(text.length());
        model.end(text.length());
    }
}
