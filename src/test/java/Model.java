import java.nio.charset.StandardCharsets;
import java.util.ArrayList;
import java.util.Arrays;
import java.util.Collections;
import java.util.List;
import java.util.function.Consumer;

/**
 * The document once more, written apart from the program, by plain search and with the whole Java library:
 * FuzzTest holds both against one another.
 */
final class Model {
    private static final int NONE = -1;

    /** What an image keeps. */
    static final class State {
        List<String> names = new ArrayList<>();
        List<int[]> says = new ArrayList<>();
        List<Integer> row = new ArrayList<>();
        String alphabet = "12345";
        List<int[]> heard = new ArrayList<>();
        int[] terms = {0, 1, 0};
        List<ModelText> laws = new ArrayList<>();
        int force = NONE;

        State copy() {
            State s = new State();
            s.names = new ArrayList<>(names);
            for (int[] said : says) {
                s.says.add(said.clone());
            }
            s.row = new ArrayList<>(row);
            s.alphabet = alphabet;
            s.heard = new ArrayList<>(heard);
            s.terms = terms.clone();
            s.laws = new ArrayList<>(laws);
            s.force = force;
            return s;
        }

        ModelText law() {
            return force == NONE ? null : laws.get(force);
        }

        List<String> rowNames() {
            List<String> all = new ArrayList<>();
            for (int p : row) {
                all.add(names.get(p));
            }
            return all;
        }
    }

    private static final class Deed {
        final int kind;
        final Consumer<State> undo;

        Deed(int kind, Consumer<State> undo) {
            this.kind = kind;
            this.undo = undo;
        }
    }

    private State now = new State();
    private final State[] images = new State[2];
    private State weeks = null;
    private List<Deed> deeds = new ArrayList<>();
    private byte[] tape = new byte[0];
    private int fault = NONE;
    private int stopped = NONE;
    private int misprints = 0;
    private int status = 0;
    private final int[] refused = new int[7];

    // ---- helpers ----

    private int refuse(int by) {
        status = by;
        refused[-by]++;
        return by;
    }

    private int fine(int answer) {
        status = 0;
        return answer;
    }

    private static boolean letter(int l) {
        return l >= 1 && l <= 5;
    }

    private boolean person(int p, State s) {
        return p >= 0 && p < s.names.size();
    }

    /** Below 0 if a is AHEAD of b. */
    static int compare(String a, String b, String alphabet) {
        for (int i = 0; i < Math.min(a.length(), b.length()); i++) {
            int d = alphabet.indexOf(a.charAt(i)) - alphabet.indexOf(b.charAt(i));
            if (d != 0) {
                return d;
            }
        }
        return a.length() - b.length();
    }

    private static List<Integer> breakPlaces(List<String> row, String alphabet) {
        List<Integer> found = new ArrayList<>();
        for (int i = 0; i + 1 < row.size(); i++) {
            if (compare(row.get(i + 1), row.get(i), alphabet) < 0) {
                found.add(i);
            }
        }
        return found;
    }

    private static int bubbles(List<String> row, String alphabet) {
        List<String> r = new ArrayList<>(row);
        int n = 0;
        while (true) {
            List<Integer> wrong = breakPlaces(r, alphabet);
            if (wrong.isEmpty()) {
                return n;
            }
            Collections.swap(r, wrong.get(0), wrong.get(0) + 1);
            n++;
        }
    }

    private static List<String> alphabets() {
        List<String> all = new ArrayList<>();
        for (int n = 12345; n <= 54321; n++) {
            String s = String.valueOf(n);
            boolean ok = true;
            for (char c = '1'; c <= '5'; c++) {
                ok &= s.indexOf(c) >= 0;
            }
            if (ok) {
                all.add(s);
            }
        }
        return all;
    }

    private static final List<String> ALL = alphabets();

    private static int listed(List<Integer> all, int i) {
        if (i == NONE) {
            return all.size();
        }
        return i >= 0 && i < all.size() ? all.get(i) : NONE;
    }

    // ---- laws ----

    private static long[] lawWords(State s, int p, int at, int old, int becomes) {
        return new long[] {p, s.row.indexOf(p), s.names.get(p).length(), at, old, becomes, s.terms[0], s.terms[2]};
    }

    private static int told(ModelText law, String kind, long[] words) {
        int cost = 1;
        if (law != null) {
            for (ModelText.Clause c : law.clauses) {
                if (c.kind.equals(kind) && c.so(words)) {
                    try {
                        cost = (int) Math.max(0, Math.min(99, c.sums.get(0).value(words)));
                    } catch (ModelText.Broken e) {
                        continue;
                    }
                }
            }
        }
        return cost;
    }

    private static int strokeCost(State s, ModelText law, int p, int k, int l) {
        return told(law, "strokes", lawWords(s, p, k, s.names.get(p).charAt(k) - '0', l));
    }

    private static int stepCost(State s, int p) {
        return told(s.law(), "steps", lawWords(s, p, -1, -1, -1));
    }

    private static boolean barred(State s, ModelText law, int p) {
        if (law != null) {
            for (ModelText.Clause c : law.clauses) {
                if (c.kind.equals("bars") && c.so(lawWords(s, p, -1, -1, -1))) {
                    return true;
                }
            }
        }
        return false;
    }

    // ---- the face ----

    int person(int name) {
        if (!String.valueOf(name).matches("[1-5]{1,4}")) {
            return refuse(-1);
        }
        if (now.names.size() == 7) {
            return refuse(-5);
        }
        deeds.clear();
        return fine(add(String.valueOf(name)));
    }

    private int add(String name) {
        now.names.add(name);
        now.says.add(new int[] {0, 1, 2, 3, 4, 5});
        now.row.add(now.names.size() - 1);
        return now.names.size() - 1;
    }

    int of(int p, int what) {
        if (!person(p, now)) {
            return NONE;
        }
        switch (what) {
            case 0: return Integer.parseInt(now.names.get(p));
            case 1: return now.row.indexOf(p);
            case 2: return stepCost(now, p);
            case 3: return barred(now, now.law(), p) ? 1 : 0;
            default: return NONE;
        }
    }

    int at(int place) {
        return person(place, now) ? now.row.get(place) : NONE;
    }

    int asks(int p, int k, int l) {
        if (!person(p, now) || k < 0 || k >= now.names.get(p).length() || !letter(l) || now.names.get(p).charAt(k) == '0' + l) {
            return NONE;
        }
        return strokeCost(now, now.law(), p, k, l);
    }

    int says(int p, int hears, int l) {
        if (!letter(hears) || !letter(l)) {
            return refuse(-1);
        }
        if (!person(p, now)) {
            return refuse(-2);
        }
        int old = now.says.get(p)[hears];
        now.says.get(p)[hears] = l;
        return fine(old);
    }

    int alphabet() {
        return Integer.parseInt(now.alphabet);
    }

    int terms(int what, int value) {
        int[] most = {999, 10, 9};
        if (what < 0 || what > 2 || value < 0 || value > most[what]) {
            return refuse(-1);
        }
        int old = now.terms[what];
        now.terms[what] = value;
        deeds.clear();
        return fine(old);
    }

    int feed(int a, int b, int c, int d, int e) {
        if (tape.length + 20 > 400) {
            return NONE;
        }
        java.nio.ByteBuffer more = java.nio.ByteBuffer.allocate(tape.length + 20);
        more.put(tape).putInt(a).putInt(b).putInt(c).putInt(d).putInt(e);
        tape = more.array();
        return tape.length;
    }

    int end(int n) {
        if (n < 0 || n > tape.length) {
            return NONE;
        }
        tape = Arrays.copyOf(tape, n);
        return n;
    }

    int row() {
        if (tape.length == 0) {
            return refuse(-6);
        }
        int came = 0;
        misprints = 0;
        for (int i = 0; i < tape.length; i += 4) {
            StringBuilder four = new StringBuilder();
            for (int k = i; k < Math.min(tape.length, i + 4); k++) {
                four.append(tape[k] >= 0 && tape[k] <= 5 ? String.valueOf(tape[k]) : "x");
            }
            if (four.length() == 4 && four.toString().matches("[1-5]+0*") && now.names.size() < 7) {
                add(four.toString().replace("0", ""));
                came++;
            } else {
                misprints++;
            }
        }
        tape = new byte[0];
        deeds.clear();
        return fine(came);
    }

    int misprints() {
        return misprints;
    }

    private String text() {
        String text = new String(tape, StandardCharsets.ISO_8859_1);
        tape = new byte[0];
        return text;
    }

    int law() {
        String text = text();
        if (now.laws.size() == 6) {
            return refuse(-5);
        }
        try {
            ModelText law = ModelText.read(text, false);
            fault = NONE;
            now.laws.add(law);
            return fine(now.laws.size() - 1);
        } catch (ModelText.Fault f) {
            fault = f.place;
            return refuse(-6);
        }
    }

    int orders() {
        stopped = NONE;
        ModelText text;
        try {
            text = ModelText.read(text(), true);
            fault = NONE;
        } catch (ModelText.Fault f) {
            fault = f.place;
            return refuse(-6);
        }
        State was = now.copy();
        List<Deed> deedsWere = new ArrayList<>(deeds);
        int done = 0;
        int latest = -1;
        for (int i = 0; i < text.clauses.size(); i++) {
            ModelText.Clause c = text.clauses.get(i);
            for (int n = 0; n < c.times; n++) {
                long[] words = orderWords(done, latest);
                if (!c.so(words)) {
                    continue;
                }
                int told = NONE;
                try {
                    told = deed(c, words);
                } catch (ModelText.Broken e) {
                    told = -3;
                }
                if (told < 0) {
                    now = was;
                    deeds = deedsWere;
                    stopped = i;
                    return refuse(-3);
                }
                done++;
                if (c.kind.equals("stroke")) {
                    latest = told;
                }
            }
        }
        return fine(done);
    }

    private long[] orderWords(int done, int latest) {
        long[] w = new long[19];
        w[0] = now.terms[0];
        w[1] = done;
        w[2] = latest;
        w[3] = breaks(NONE);
        w[4] = swaps();
        for (int i = 0; i < 7; i++) {
            w[5 + i] = at(i);
            w[12 + i] = of(i, 0);
        }
        return w;
    }

    private int deed(ModelText.Clause c, long[] words) {
        int[] v = new int[3];
        for (int i = 0; i < c.sums.size(); i++) {
            v[i] = (int) c.sums.get(i).value(words);
        }
        switch (c.kind) {
            case "stroke": return doStroke(v[0], v[1], v[2]);
            case "swap": return doSwap(v[0]);
            case "decree": return doDecree(v[0]);
            default: return doPass();
        }
    }

    int fault() {
        return fault;
    }

    int stopped() {
        return stopped;
    }

    int force(int law) {
        if (law < -1 || law >= now.laws.size()) {
            return refuse(-2);
        }
        int old = now.force;
        now.force = law;
        return fine(old);
    }

    private void did(int kind, Consumer<State> undo) {
        deeds.add(new Deed(kind, undo));
        if (deeds.size() > 16) {
            deeds.remove(0);
        }
    }

    private static void setLetter(State s, int p, int k, char c) {
        StringBuilder b = new StringBuilder(s.names.get(p));
        b.setCharAt(k, c);
        s.names.set(p, b.toString());
    }

    private int doStroke(int p, int k, int l) {
        if (k < 0 || k > 3 || !letter(l)) {
            return -1;
        }
        if (!person(p, now)) {
            return -2;
        }
        String name = now.names.get(p);
        if (k >= name.length() || name.charAt(k) == '0' + l || barred(now, now.law(), p)) {
            return -3;
        }
        int cost = strokeCost(now, now.law(), p, k, l);
        char old = name.charAt(k);
        setLetter(now, p, k, (char) ('0' + l));
        did(0, s -> setLetter(s, p, k, old));
        return cost;
    }

    private int doSwap(int place) {
        if (!person(place, now) || !person(place + 1, now)) {
            return -2;
        }
        int cost = stepCost(now, now.row.get(place)) + stepCost(now, now.row.get(place + 1));
        Collections.swap(now.row, place, place + 1);
        did(1, s -> Collections.swap(s.row, place, place + 1));
        return cost;
    }

    private static void change(State s, int k) {
        char[] c = s.alphabet.toCharArray();
        char x = c[k];
        c[k] = c[k + 1];
        c[k + 1] = x;
        s.alphabet = new String(c);
    }

    private int doDecree(int k) {
        if (k < 0 || k > 3) {
            return -1;
        }
        change(now, k);
        did(2, s -> change(s, k));
        return alphabet();
    }

    private int doPass() {
        if (now.terms[0] == 999) {
            return -3;
        }
        now.terms[0]++;
        did(3, s -> s.terms[0]--);
        return now.terms[0];
    }

    private int settle(int told) {
        return told < 0 ? refuse(told) : fine(told);
    }

    int stroke(int p, int k, int l) {
        return settle(doStroke(p, k, l));
    }

    int swap(int place) {
        return settle(doSwap(place));
    }

    int decree(int k) {
        return settle(doDecree(k));
    }

    int pass() {
        return settle(doPass());
    }

    int undo() {
        if (deeds.isEmpty()) {
            return refuse(-3);
        }
        Deed d = deeds.remove(deeds.size() - 1);
        d.undo.accept(now);
        return fine(d.kind);
    }

    int ahead(int a, int b) {
        if (!person(a, now) || !person(b, now)) {
            return NONE;
        }
        int c = compare(now.names.get(a), now.names.get(b), now.alphabet);
        return c < 0 ? 1 : c > 0 ? 2 : 0;
    }

    int breaks(int i) {
        return listed(breakPlaces(now.rowNames(), now.alphabet), i);
    }

    int swaps() {
        return bubbles(now.rowNames(), now.alphabet);
    }

    int out(int what) {
        int n = now.row.size();
        for (int size = 0; size <= n; size++) {
            for (int mask = 0; mask < 1 << n; mask++) {
                List<String> left = new ArrayList<>();
                for (int p = 0; p < n; p++) {
                    if ((mask & 1 << p) == 0) {
                        left.add(now.names.get(now.row.get(p)));
                    }
                }
                if (left.size() == n - size && breakPlaces(left, now.alphabet).isEmpty()) {
                    return what == 0 ? size : what == 1 ? mask : NONE;
                }
            }
        }
        throw new IllegalStateException();
    }

    int right(int i) {
        List<Integer> all = new ArrayList<>();
        for (String a : ALL) {
            if (breakPlaces(now.rowNames(), a).isEmpty()) {
                all.add(Integer.parseInt(a));
            }
        }
        return listed(all, i);
    }

    int heard(int a, int b) {
        if (a == b) {
            return refuse(-1);
        }
        if (!person(a, now) || !person(b, now)) {
            return refuse(-2);
        }
        if (now.heard.size() == 8) {
            return refuse(-5);
        }
        now.heard.add(new int[] {a, b});
        return fine(now.heard.size());
    }

    int forget() {
        int n = now.heard.size();
        now.heard.clear();
        return n;
    }

    private List<String> fitting() {
        List<String> all = new ArrayList<>();
        for (String a : ALL) {
            boolean ok = true;
            for (int[] h : now.heard) {
                ok &= compare(now.names.get(h[0]), now.names.get(h[1]), a) < 0;
            }
            if (ok) {
                all.add(a);
            }
        }
        return all;
    }

    int fits(int i) {
        List<Integer> all = new ArrayList<>();
        for (String a : fitting()) {
            all.add(Integer.parseInt(a));
        }
        return listed(all, i);
    }

    int ask(int what) {
        List<String> fit = fitting();
        int best = Integer.MAX_VALUE;
        int two = NONE;
        for (int a = 0; a < now.names.size(); a++) {
            for (int b = a + 1; b < now.names.size(); b++) {
                int less = 0;
                int more = 0;
                for (String f : fit) {
                    int c = compare(now.names.get(a), now.names.get(b), f);
                    less += c < 0 ? 1 : 0;
                    more += c > 0 ? 1 : 0;
                }
                if (!now.names.get(a).equals(now.names.get(b)) && Math.max(less, more) < best) {
                    best = Math.max(less, more);
                    two = 10 * a + b;
                }
            }
        }
        if (fit.isEmpty() || two == NONE) {
            return NONE;
        }
        return what == 0 ? two : what == 1 ? best : NONE;
    }

    /** All NAMES of a length as they are AHEAD of one another. */
    private static List<String> namesOf(int length, String alphabet) {
        List<String> all = new ArrayList<>();
        all.add("");
        for (int k = 0; k < length; k++) {
            List<String> longer = new ArrayList<>();
            for (String s : all) {
                for (char c : alphabet.toCharArray()) {
                    longer.add(s + c);
                }
            }
            all = longer;
        }
        return all;
    }

    /** The cost, then the NAMES; null if it can't be. */
    private int[] mended(ModelText law) {
        int n = now.row.size();
        List<List<String>> choices = new ArrayList<>();
        List<int[]> costs = new ArrayList<>();
        for (int place = 0; place < n; place++) {
            int p = now.row.get(place);
            String own = now.names.get(p);
            List<String> names = barred(now, law, p) ? List.of(own) : namesOf(own.length(), now.alphabet);
            int[][] price = new int[own.length()][6];
            for (int k = 0; k < own.length(); k++) {
                for (int l = 1; l <= 5; l++) {
                    price[k][l] = own.charAt(k) == '0' + l ? 0 : strokeCost(now, law, p, k, l);
                }
            }
            int[] cost = new int[names.size()];
            for (int i = 0; i < cost.length; i++) {
                for (int k = 0; k < own.length(); k++) {
                    cost[i] += price[k][names.get(i).charAt(k) - '0'];
                }
            }
            choices.add(names);
            costs.add(cost);
        }
        // From the end: each choice with the best, and of like ones the first, choice behind it.
        int[][] next = new int[n][];
        for (int place = n - 2; place >= 0; place--) {
            List<String> here = choices.get(place);
            List<String> behind = choices.get(place + 1);
            next[place] = new int[here.size()];
            int from = behind.size();
            int best = -1;
            for (int i = here.size() - 1; i >= 0; i--) {
                while (from > 0 && compare(behind.get(from - 1), here.get(i), now.alphabet) >= 0) {
                    from--;
                    int c = costs.get(place + 1)[from];
                    if (c < 1_000_000 && (best < 0 || c <= costs.get(place + 1)[best])) {
                        best = from;
                    }
                }
                next[place][i] = best;
                costs.get(place)[i] += best < 0 ? 1_000_000 : costs.get(place + 1)[best];
            }
        }
        int[] answer = new int[n + 1];
        if (n > 0) {
            int at = 0;
            for (int i = 1; i < costs.get(0).length; i++) {
                if (costs.get(0)[i] < costs.get(0)[at]) {
                    at = i;
                }
            }
            if (costs.get(0)[at] >= 1_000_000) {
                return null;
            }
            answer[0] = costs.get(0)[at];
            for (int place = 0; place < n; place++) {
                answer[1 + place] = Integer.parseInt(choices.get(place).get(at));
                at = place + 1 < n ? next[place][at] : 0;
            }
        }
        return answer;
    }

    int mend(int what) {
        int[] m = mended(now.law());
        return m == null || what < 0 || what >= m.length ? NONE : m[what];
    }

    int whisper(int l) {
        if (!letter(l)) {
            return NONE;
        }
        int told = l;
        for (int p : now.row) {
            told = now.says.get(p)[told];
        }
        return told;
    }

    int from(int l) {
        if (!letter(l)) {
            return NONE;
        }
        int bits = 0;
        for (int first = 1; first <= 5; first++) {
            bits += whisper(first) == l ? 1 << (first - 1) : 0;
        }
        return bits;
    }

    private int bestClear;
    private List<Integer> bestRow;

    private void permute(List<Integer> row, List<Integer> left) {
        if (left.isEmpty()) {
            int same = 0;
            for (int first = 1; first <= 5; first++) {
                int told = first;
                for (int p : row) {
                    told = now.says.get(p)[told];
                }
                same += told == first ? 1 : 0;
            }
            if (same > bestClear) {
                bestClear = same;
                bestRow = new ArrayList<>(row);
            }
        }
        for (int i = 0; i < left.size(); i++) {
            List<Integer> rest = new ArrayList<>(left);
            row.add(rest.remove(i));
            permute(row, rest);
            row.remove(row.size() - 1);
        }
    }

    int clearest(int i) {
        bestClear = -1;
        List<Integer> all = new ArrayList<>(now.row);
        Collections.sort(all);
        permute(new ArrayList<>(), all);
        return i == NONE ? bestClear : i >= 0 && i < bestRow.size() ? bestRow.get(i) : NONE;
    }

    long comes(int k, int n) {
        if (k < 1 || k > 20 || n < 0 || n > 99) {
            return NONE;
        }
        long[][] part = new long[n + 1][n + 1];
        part[0][0] = 1_000_000_000_000L;
        for (int step = 0; step < n; step++) {
            for (int j = 0; j <= step; j++) {
                part[step + 1][j] += part[step][j] * (10 - now.terms[1]) / 10;
                part[step + 1][j + 1] += part[step][j] * now.terms[1] / 10;
            }
        }
        long sum = 0;
        for (int j = 0; j < k && j <= n; j++) {
            sum += part[n][j];
        }
        return sum;
    }

    int compare(int law) {
        if (law < -1 || law >= now.laws.size()) {
            return NONE;
        }
        int[] m = mended(law == NONE ? null : now.laws.get(law));
        return m == null ? NONE : m[0];
    }

    private long s;

    private int draw(int m) {
        s = (s * 1103 + 12345) % 1000003;
        return (int) (s % m);
    }

    int weeks(int seed, int n) {
        if (seed < 0 || seed > 1_000_000 || n < 1 || n > 60) {
            return refuse(-1);
        }
        if (now.names.isEmpty()) {
            return refuse(-3);
        }
        s = seed;
        weeks = now.copy();
        int right = 0;
        for (int t = 0; t < n; t++) {
            if (weeks.terms[0] == 999) {
                break;
            }
            int who = draw(weeks.names.size());
            int what = draw(4);
            char l = (char) ('1' + draw(5));
            if (what < 2 && who + 1 < weeks.row.size()) {
                Collections.swap(weeks.row, who, who + 1);
            }
            if (what == 2 && weeks.names.get(who).charAt(0) != l && !barred(weeks, weeks.law(), who)) {
                setLetter(weeks, who, 0, l);
            }
            weeks.terms[0]++;
            right += breakPlaces(weeks.rowNames(), weeks.alphabet).isEmpty() ? 1 : 0;
        }
        return fine(right);
    }

    int drawn(int p, int what) {
        if (weeks == null || !person(p, weeks)) {
            return NONE;
        }
        return what == 0 ? Integer.parseInt(weeks.names.get(p)) : what == 1 ? weeks.row.indexOf(p) : NONE;
    }

    int image(int k) {
        if (k < 0 || k > 1) {
            return refuse(-1);
        }
        images[k] = now.copy();
        return fine(0);
    }

    int back(int k) {
        if (k < 0 || k > 1) {
            return refuse(-1);
        }
        if (images[k] == null) {
            return refuse(-2);
        }
        now = images[k].copy();
        deeds.clear();
        return fine(0);
    }

    int count(int what) {
        int[] all = {now.names.size(), breaks(NONE), now.heard.size(), now.laws.size(), deeds.size(), tape.length,
            refused[1], refused[2], refused[3], refused[5], refused[6], now.force, now.terms[0], now.terms[1], now.terms[2]};
        return what >= 0 && what < all.length ? all[what] : NONE;
    }

    int status() {
        return status;
    }
}
