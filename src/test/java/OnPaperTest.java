import java.util.ArrayDeque;
import java.util.ArrayList;
import java.util.Arrays;
import java.util.HashMap;
import java.util.List;
import java.util.Map;
import java.util.Random;

/**
 * Promises 25 to 27, 30 to 32, 35, 37 and 38: what is reckoned on paper, held against the same done for real by
 * other calls, or against the words of the Terms searched through one by one. The rows are drawn, and small.
 */
public final class OnPaperTest {
    private static final Check CHECK = new Check();
    private static final int ROWS = 60;
    private static final int NONE = LetterQuay.NONE;

    private final Random random;
    private final int[] names;
    private final int[] decrees;
    private final String law;
    private final LetterQuay x;
    private final String alphabet;
    /** What ahead() tells of each two, asked once, as an object is used for 512 calls at most. */
    private final int[][] ahead;

    private OnPaperTest(int seed, int people, int longest) {
        random = new Random(seed);
        names = new int[people];
        for (int i = 0; i < people; i++) {
            names[i] = name(1 + random.nextInt(longest));
        }
        decrees = random.ints(random.nextInt(6), 0, 4).toArray();
        law = "strokes [person*7+at*3+letter+new*place]%" + (2 + random.nextInt(4))
            + "; strokes 2 if new = " + (1 + random.nextInt(5)) + "; bars if person = " + random.nextInt(4) + " and day < 2";
        x = made();
        alphabet = String.valueOf(x.alphabet());
        ahead = new int[people][people];
        for (int one = 0; one < people; one++) {
            for (int other = 0; other < people; other++) {
                ahead[one][other] = x.ahead(one, other);
            }
        }
    }

    public static void main(String[] args) {
        for (int seed = 0; seed < ROWS; seed++) {
            new OnPaperTest(seed, seed % 6, 3).swapsByWalking();
            new OnPaperTest(seed, seed % 6, 3).outByStandingElsewhere();
            new OnPaperTest(seed, seed % 4, 2).alphabetsByDecrees();
            new OnPaperTest(seed, seed % 4, 2).mendedOfAllNames();
            new OnPaperTest(seed, seed % 5, 1).clearestByExchanges();
            new OnPaperTest(seed, 1 + seed % 7, 4).weeksForReal();
        }
        CHECK.finish();
    }

    private int name(int length) {
        int name = 0;
        for (int k = 0; k < length; k++) {
            name = 10 * name + 1 + random.nextInt(random.nextBoolean() ? 5 : 2);
        }
        return name;
    }

    private LetterQuay made() {
        LetterQuay quay = Check.quay(names);
        for (int k : decrees) {
            quay.decree(k);
        }
        Check.force(quay, law);
        return quay;
    }

    /** Whether the row of these PEOPLE would be RIGHT. */
    private boolean isRight(List<Integer> row) {
        for (int place = 0; place + 1 < row.size(); place++) {
            if (ahead[row.get(place + 1)][row.get(place)] == 1) {
                return false;
            }
        }
        return true;
    }

    private static List<Integer> firstRow(int people) {
        List<Integer> row = new ArrayList<>();
        for (int person = 0; person < people; person++) {
            row.add(person);
        }
        return row;
    }

    /** All orders, the first as a row of PEOPLE first. */
    private static List<List<Integer>> allRows(int people) {
        List<List<Integer>> all = new ArrayList<>();
        all.add(new ArrayList<>());
        for (int n = 0; n < people; n++) {
            List<List<Integer>> longer = new ArrayList<>();
            for (List<Integer> row : all) {
                for (int person = 0; person < people; person++) {
                    if (!row.contains(person)) {
                        List<Integer> more = new ArrayList<>(row);
                        more.add(person);
                        longer.add(more);
                    }
                }
            }
            all = longer;
        }
        return all;
    }

    // ---- 25, 26 ----

    private void swapsByWalking() {
        CHECK.part("25 swaps, by walking from row to row: " + Arrays.toString(names));
        Map<List<Integer>, Integer> steps = new HashMap<>();
        ArrayDeque<List<Integer>> open = new ArrayDeque<>();
        open.add(firstRow(names.length));
        steps.put(open.peek(), 0);
        while (!isRight(open.peek())) {
            List<Integer> row = open.remove();
            for (int place = 0; place + 1 < row.size(); place++) {
                List<Integer> next = new ArrayList<>(row);
                next.set(place, row.get(place + 1));
                next.set(place + 1, row.get(place));
                if (steps.putIfAbsent(next, steps.get(row) + 1) == null) {
                    open.add(next);
                }
            }
        }
        CHECK.due("swaps()", x.swaps(), steps.get(open.peek()));
    }

    private void outByStandingElsewhere() {
        CHECK.part("26 out, by standing elsewhere: " + Arrays.toString(names));
        List<List<Integer>> rightRows = allRows(names.length);
        rightRows.removeIf(row -> !isRight(row));
        int best = (1 << names.length) - 1;
        for (int places = best; places >= 0; places--) {
            if (Integer.bitCount(places) <= Integer.bitCount(best) && someKeepTheOthers(rightRows, places)) {
                best = places;
            }
        }
        CHECK.due("out(0)", x.out(0), Integer.bitCount(best));
        CHECK.due("out(1)", x.out(1), best);
    }

    private static boolean someKeepTheOthers(List<List<Integer>> rows, int places) {
        for (List<Integer> row : rows) {
            int last = -1;
            boolean kept = true;
            for (int person : row) {
                if ((places >> person & 1) == 0) {
                    kept &= person > last;
                    last = person;
                }
            }
            if (kept) {
                return true;
            }
        }
        return false;
    }

    // ---- 27, 30, 31 ----

    /** The same PEOPLE under an ALPHABET that decrees have made. */
    private LetterQuay under(int decreed) {
        LetterQuay quay = Check.quay(names);
        String due = String.valueOf(decreed);
        for (int place = 0; place < 5; place++) {
            for (int k = String.valueOf(quay.alphabet()).indexOf(due.charAt(place)) - 1; k >= place; k--) {
                quay.decree(k);
            }
        }
        return quay;
    }

    private void alphabetsByDecrees() {
        CHECK.part("27 right, 30 fits, 31 ask, by decrees: " + Arrays.toString(names));
        int[][] heard = new int[names.length < 2 ? 0 : random.nextInt(3)][];
        for (int i = 0; i < heard.length; i++) {
            int one = random.nextInt(names.length);
            heard[i] = new int[] {one, (one + 1 + random.nextInt(names.length - 1)) % names.length};
            x.heard(heard[i][0], heard[i][1]);
        }
        List<LetterQuay> fitting = new ArrayList<>();
        int right = 0;
        for (List<Integer> letters : allRows(5)) {
            int decreed = 0;
            for (int letter : letters) {
                decreed = 10 * decreed + letter + 1;
            }
            LetterQuay there = under(decreed);
            CHECK.due("alphabet()", there.alphabet(), decreed);
            if (there.breaks(NONE) == 0) {
                CHECK.due("right(" + right + ")", x.right(right), decreed);
                right++;
            }
            if (allIsSo(there, heard)) {
                CHECK.due("fits(" + fitting.size() + ")", x.fits(fitting.size()), decreed);
                fitting.add(there);
            }
        }
        CHECK.due("right(NONE)", x.right(NONE), right);
        CHECK.due("fits(NONE)", x.fits(NONE), fitting.size());
        ask(fitting);
    }

    private static boolean allIsSo(LetterQuay there, int[][] heard) {
        for (int[] two : heard) {
            if (there.ahead(two[0], two[1]) != 1) {
                return false;
            }
        }
        return true;
    }

    private void ask(List<LetterQuay> fitting) {
        int two = NONE;
        int least = NONE;
        for (int one = 0; one < names.length && !fitting.isEmpty(); one++) {
            for (int other = one + 1; other < names.length; other++) {
                int[] by = new int[3];
                for (LetterQuay there : fitting) {
                    by[there.ahead(one, other)]++;
                }
                int left = Math.max(by[1], by[2]);
                if (names[one] != names[other] && (two == NONE || left < least)) {
                    two = 10 * one + other;
                    least = left;
                }
            }
        }
        CHECK.due("ask(0)", x.ask(0), two);
        CHECK.due("ask(1)", x.ask(1), least);
    }

    // ---- 32, 37 ----

    /** A PERSON's new NAMES as they are AHEAD of one another, each with what its STROKES cost by asks(). */
    private List<int[]> choices(int person) {
        List<int[]> all = new ArrayList<>();
        all.add(new int[] {0, 0});
        String own = String.valueOf(names[person]);
        for (int k = 0; k < own.length(); k++) {
            List<int[]> longer = new ArrayList<>();
            for (int[] begun : all) {
                for (char letter : alphabet.toCharArray()) {
                    int cost = letter == own.charAt(k) ? 0 : x.asks(person, k, letter - '0');
                    longer.add(new int[] {10 * begun[0] + letter - '0', begun[1] + cost});
                }
            }
            all = longer;
        }
        if (x.of(person, 3) == 1) {
            all.removeIf(choice -> choice[0] != names[person]);
        }
        return all;
    }

    private void mendedOfAllNames() {
        CHECK.part("32 mend, of all NAMES: " + Arrays.toString(names) + " by " + law);
        List<List<int[]>> rows = new ArrayList<>();
        rows.add(new ArrayList<>());
        for (int person = 0; person < names.length; person++) {
            List<int[]> choices = choices(person);
            List<List<int[]>> longer = new ArrayList<>();
            for (List<int[]> row : rows) {
                for (int[] choice : choices) {
                    if (row.isEmpty() || !isAhead(choice[0], row.get(row.size() - 1)[0])) {
                        List<int[]> more = new ArrayList<>(row);
                        more.add(choice);
                        longer.add(more);
                    }
                }
            }
            rows = longer;
        }
        List<int[]> best = null;
        for (List<int[]> row : rows) {
            if (best == null || cost(row) < cost(best)) {
                best = row;
            }
        }
        CHECK.due("mend(0)", x.mend(0), best == null ? NONE : cost(best));
        for (int place = 0; place < names.length; place++) {
            CHECK.due("mend(" + (1 + place) + ")", x.mend(1 + place), best == null ? NONE : best.get(place)[0]);
        }
        CHECK.due("compare(0)", x.compare(0), x.mend(0));
        x.force(NONE);
        CHECK.due("compare(NONE)", x.compare(NONE), x.mend(0));
        CHECK.due("compare(0) with none in FORCE", x.compare(0), best == null ? NONE : cost(best));
    }

    private boolean isAhead(int name, int other) {
        return Model.compare(String.valueOf(name), String.valueOf(other), alphabet) < 0;
    }

    private static int cost(List<int[]> row) {
        int sum = 0;
        for (int[] choice : row) {
            sum += choice[1];
        }
        return sum;
    }

    // ---- 35 ----

    private void clearestByExchanges() {
        CHECK.part("35 clearest, by exchanges: " + names.length + " people");
        for (int n = 0; n < 3 * names.length; n++) {
            x.says(random.nextInt(names.length), 1 + random.nextInt(5), 1 + random.nextInt(5));
        }
        int most = -1;
        List<Integer> clearest = null;
        for (List<Integer> row : allRows(names.length)) {
            for (int place = 0; place < row.size(); place++) {
                for (int from = x.of(row.get(place), 1) - 1; from >= place; from--) {
                    x.swap(from);
                }
            }
            int same = 0;
            for (int letter = 1; letter <= 5; letter++) {
                same += x.whisper(letter) == letter ? 1 : 0;
            }
            if (same > most) {
                most = same;
                clearest = row;
            }
        }
        CHECK.due("clearest(NONE)", x.clearest(NONE), most);
        for (int place = 0; place < names.length; place++) {
            CHECK.due("clearest(" + place + ")", x.clearest(place), clearest.get(place));
        }
    }

    // ---- 38, 39 ----

    private void weeksForReal() {
        int seed = random.nextInt(1_000_001);
        int n = 1 + random.nextInt(60);
        int day = random.nextInt(4) == 0 ? 999 - random.nextInt(30) : 0;
        CHECK.part("38 weeks(" + seed + ", " + n + ") from DAY " + day + ", for real: " + Arrays.toString(names) + " by " + law);
        LetterQuay real = made();
        x.terms(0, day);
        real.terms(0, day);
        int right = 0;
        int s = seed;
        for (int time = 0; time < n && real.count(12) < 999; time++) {
            s = Check.draw(s);
            int who = s % names.length;
            s = Check.draw(s);
            int what = s % 4;
            s = Check.draw(s);
            if (what < 2) {
                real.swap(who);
            } else if (what == 2) {
                real.stroke(who, 0, s % 5 + 1);
            }
            real.pass();
            right += real.breaks(NONE) == 0 ? 1 : 0;
        }
        CHECK.due("weeks", x.weeks(seed, n), right);
        for (int person = 0; person < names.length; person++) {
            CHECK.due("drawn(" + person + ", 0)", x.drawn(person, 0), real.of(person, 0));
            CHECK.due("drawn(" + person + ", 1)", x.drawn(person, 1), real.of(person, 1));
        }
    }
}
