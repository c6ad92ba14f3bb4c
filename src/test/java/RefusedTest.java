import java.util.ArrayList;
import java.util.List;
import java.util.function.ToIntFunction;

/**
 * A REFUSED call, and one that answers NONE, changes nothing but what the document says: two objects are made by the
 * same calls, one of them has the call on top, and both are asked all that can be asked.
 */
public final class RefusedTest {
    private static final Check CHECK = new Check();
    private static final int MIN = Integer.MIN_VALUE;
    private static final int MAX = Integer.MAX_VALUE;
    private static final int STATES = 4;
    private static final int[] NAMES = {5432, 4, 4321, 31, 3, 2, 5};

    private interface Call extends ToIntFunction<LetterQuay> {
    }

    public static void main(String[] args) {
        CHECK.sentence(0, "REFUSED by: -1 a number that can't be; -2 there is no such PERSON, PLACE, LAW, IMAGE; -3 it can't be by what stands; -5 no room; -6 a TEXT, a ROW that can't be. The first of these in that order.");
        for (int state = 0; state < STATES; state++) {
            CHECK.due("count(0) of state " + state, made(state).count(0), state == 0 ? 0 : state == 1 ? 3 : 7);
            CHECK.due("count(3) of state " + state, made(state).count(3), state == 0 ? 0 : state == 1 ? 2 : 6);
            CHECK.due("count(2) of state " + state, made(state).count(2), state == 0 ? 0 : state == 1 ? 3 : 8);
            for (int bad : new int[] {MIN, -2, -1, 7, 8, MAX}) {
                numbers(state, bad);
            }
            edges(state);
            answersNone(state);
        }
        byWhatStands();
        texts();
        CHECK.finish();
    }

    /** 0: empty; 1: some; 2: all is full; 3: all is full, the last DAY, everyone BARRED. */
    private static LetterQuay made(int state) {
        LetterQuay x = new LetterQuay();
        if (state == 0) {
            return x;
        }
        int people = state == 1 ? 3 : 7;
        for (int person = 0; person < people; person++) {
            x.person(NAMES[person]);
            x.says(person, 1 + person % 5, 5 - person % 5);
        }
        x.image(0);
        for (int law = 0; law < (state == 1 ? 2 : 6); law++) {
            Check.law(x, law == 1 ? "bars if person=1; strokes at+new+2; steps 3+place" : "bars; steps " + law);
        }
        for (int n = 0; n < (state == 1 ? 3 : 8); n++) {
            x.heard(n % 3, (n + 1) % 3);
        }
        x.force(state == 3 ? 2 : 1);
        x.terms(0, state == 3 ? 998 : 40);
        x.weeks(77 + state, 9);
        x.pass();
        x.swap(0);
        x.decree(2);
        if (state == 2) {
            for (int n = 0; n < 16; n++) {
                x.swap(n % 6);
            }
            x.image(1);
        }
        Check.put(x, "pass times 3 if day < 999; decree 1; swap 0; swap 5 if who 6 > 0-1");
        return x;
    }

    private static int[] refusals(LetterQuay x) {
        int[] counts = new int[5];
        for (int i = 0; i < 5; i++) {
            counts[i] = x.count(6 + i);
        }
        return counts;
    }

    private static final int[] BY = {-1, -2, -3, -5, -6};

    /** want: by what it is REFUSED; 0 for one that answers NONE and is not. */
    private static void unchanged(int state, String what, int want, Call call) {
        String where = what + " in state " + state;
        LetterQuay twin = made(state);
        LetterQuay x = made(state);
        int[] before = refusals(x);
        int statusBefore = x.status();
        CHECK.due(where, call.applyAsInt(x), want == 0 ? -1 : want);
        CHECK.due("status() behind " + where, x.status(), want == 0 ? statusBefore : want);
        int[] behind = refusals(x);
        for (int i = 0; i < 5; i++) {
            CHECK.due("count(" + (6 + i) + ") behind " + where, behind[i], before[i] + (BY[i] == want ? 1 : 0));
        }
        same(where, Look.at(x), Look.at(twin));
        same(where, Look.atLast(x), Look.atLast(twin));
    }

    private static void same(String where, Look one, Look other) {
        String difference = one.differsFrom(other);
        CHECK.so("nothing changes by " + where + ": " + difference, difference.isEmpty());
    }

    /** A number that is none of a PERSON, a PLACE, a LETTER, a TERM, an IMAGE in any state. */
    private static void numbers(int state, int bad) {
        unchanged(state, "person(" + bad + ")", -1, x -> x.person(bad));
        unchanged(state, "says(0, " + bad + ", 1)", -1, x -> x.says(0, bad, 1));
        unchanged(state, "says(0, 1, " + bad + ")", -1, x -> x.says(0, 1, bad));
        unchanged(state, "says(" + bad + ", 1, 1)", -2, x -> x.says(bad, 1, 1));
        unchanged(state, "says(" + bad + ", 1, 6)", -1, x -> x.says(bad, 1, 6));
        unchanged(state, "terms(" + bad + ", 1)", -1, x -> x.terms(bad, 1));
        unchanged(state, "stroke(" + bad + ", 0, 1)", -2, x -> x.stroke(bad, 0, 1));
        unchanged(state, "stroke(" + bad + ", 4, 1)", -1, x -> x.stroke(bad, 4, 1));
        unchanged(state, "stroke(0, " + bad + ", 1)", -1, x -> x.stroke(0, bad, 1));
        unchanged(state, "stroke(0, 0, " + bad + ")", -1, x -> x.stroke(0, 0, bad));
        unchanged(state, "swap(" + bad + ")", -2, x -> x.swap(bad));
        unchanged(state, "decree(" + bad + ")", -1, x -> x.decree(bad));
        unchanged(state, "heard(" + bad + ", " + bad + ")", -1, x -> x.heard(bad, bad));
        unchanged(state, "heard(" + bad + ", 0)", -2, x -> x.heard(bad, 0));
        unchanged(state, "heard(0, " + bad + ")", -2, x -> x.heard(0, bad));
        unchanged(state, "image(" + bad + ")", -1, x -> x.image(bad));
        unchanged(state, "back(" + bad + ")", -1, x -> x.back(bad));
        if (bad != -1) {
            unchanged(state, "force(" + bad + ")", -2, x -> x.force(bad));
        }
        if (bad < 0) {
            unchanged(state, "weeks(" + bad + ", 1)", -1, x -> x.weeks(bad, 1));
            unchanged(state, "weeks(0, " + bad + ")", -1, x -> x.weeks(0, bad));
            unchanged(state, "terms(0, " + bad + ")", -1, x -> x.terms(0, bad));
        }
    }

    private static void edges(int state) {
        int people = made(state).count(0);
        unchanged(state, "person(10)", -1, x -> x.person(10));
        unchanged(state, "person(5556)", -1, x -> x.person(5556));
        unchanged(state, "terms(0, 1000)", -1, x -> x.terms(0, 1000));
        unchanged(state, "terms(1, 11)", -1, x -> x.terms(1, 11));
        unchanged(state, "terms(2, 10)", -1, x -> x.terms(2, 10));
        unchanged(state, "terms(3, 0)", -1, x -> x.terms(3, 0));
        unchanged(state, "says(people, 1, 1)", -2, x -> x.says(people, 1, 1));
        unchanged(state, "stroke(people, 0, 1)", -2, x -> x.stroke(people, 0, 1));
        unchanged(state, "swap(people - 1)", -2, x -> x.swap(people - 1));
        unchanged(state, "decree(4)", -1, x -> x.decree(4));
        unchanged(state, "force(LAWS)", -2, x -> x.force(x.count(3)));
        unchanged(state, "heard(0, people)", -2, x -> x.heard(people == 0 ? 1 : 0, people));
        unchanged(state, "heard(0, 0)", -1, x -> x.heard(0, 0));
        unchanged(state, "weeks(1000001, 1)", -1, x -> x.weeks(1_000_001, 1));
        unchanged(state, "weeks(0, 61)", -1, x -> x.weeks(0, 61));
        unchanged(state, "image(2)", -1, x -> x.image(2));
        unchanged(state, "back(2)", -1, x -> x.back(2));
    }

    private static void answersNone(int state) {
        List<Call> calls = new ArrayList<>();
        int people = made(state).count(0);
        for (int bad : new int[] {MIN, -2, 121, MAX}) {
            calls.add(x -> x.of(bad, 0));
            calls.add(x -> x.of(0, bad));
            calls.add(x -> x.at(bad));
            calls.add(x -> x.asks(bad, 0, 1));
            calls.add(x -> x.asks(0, bad, 1));
            calls.add(x -> x.asks(0, 0, bad));
            calls.add(x -> x.end(bad));
            calls.add(x -> x.ahead(bad, 0));
            calls.add(x -> x.ahead(0, bad));
            calls.add(x -> x.breaks(bad));
            calls.add(x -> x.out(bad));
            calls.add(x -> x.right(bad));
            calls.add(x -> x.fits(bad));
            calls.add(x -> x.ask(bad));
            calls.add(x -> x.mend(bad));
            calls.add(x -> x.whisper(bad));
            calls.add(x -> x.from(bad));
            calls.add(x -> x.clearest(bad));
            calls.add(x -> (int) x.comes(bad, 1));
            calls.add(x -> (int) x.comes(1, bad));
            calls.add(x -> x.compare(bad));
            calls.add(x -> x.drawn(bad, 0));
            calls.add(x -> x.drawn(0, bad));
            calls.add(x -> x.count(bad));
        }
        calls.add(x -> x.of(people, 0));
        calls.add(x -> x.at(people));
        calls.add(x -> x.ahead(0, people));
        calls.add(x -> x.mend(people + 1));
        calls.add(x -> x.clearest(people));
        calls.add(x -> x.end(x.count(5) + 1));
        calls.add(x -> x.compare(x.count(3)));
        for (int i = 0; i < calls.size(); i++) {
            unchanged(state, "a call that answers NONE, " + i, 0, calls.get(i));
        }
    }

    private static void byWhatStands() {
        unchanged(0, "undo()", -3, LetterQuay::undo);
        unchanged(0, "weeks(0, 1)", -3, x -> x.weeks(0, 1));
        unchanged(0, "back(0)", -2, x -> x.back(0));
        unchanged(0, "back(1)", -2, x -> x.back(1));
        unchanged(1, "back(1)", -2, x -> x.back(1));
        unchanged(1, "stroke(1, 0, 5) of one who is BARRED", -3, x -> x.stroke(1, 0, 5));
        unchanged(1, "stroke(1, 1, 5): not so many LETTERS", -3, x -> x.stroke(1, 1, 5));
        unchanged(1, "stroke(0, 0, 5): it is that one", -3, x -> x.stroke(0, 0, 5));
        for (int state = 2; state < STATES; state++) {
            unchanged(state, "an eighth of PEOPLE", -5, x -> x.person(1));
            unchanged(state, "an eighth of PEOPLE without a NAME", -1, x -> x.person(0));
            unchanged(state, "a ninth heard()", -5, x -> x.heard(0, 1));
            unchanged(state, "a ninth heard() of one alone", -1, x -> x.heard(0, 0));
            unchanged(state, "a ninth heard() of nobody", -2, x -> x.heard(0, 7));
        }
        unchanged(3, "pass() at the last DAY", -3, LetterQuay::pass);
        unchanged(3, "stroke() of one who is BARRED", -3, x -> x.stroke(0, 0, 1));
        unchanged(3, "back(1)", -2, x -> x.back(1));
    }

    /** The TAPE, FAULT and where ORDERS stopped change by these; all else is as it was. */
    private static void texts() {
        for (int state = 0; state < STATES; state++) {
            boolean room = state < 2;
            text(state, "bars x", room ? -6 : -5, room ? 5 : -1, true);
            text(state, "   ", room ? -6 : -5, room ? 3 : -1, true);
            text(state, "", room ? -6 : -5, room ? 0 : -1, true);
            text(state, "pass x", -6, 5, false);
            text(state, "", -6, 0, false);
            text(state, "decree 0; decree 1 times 20; swap 7", -3, -1, false);
            text(state, "decree 0 times 20; pass times 20 if day < 998; decree 1/0", -3, -1, false);
        }
    }

    private static void text(int state, String text, int want, int fault, boolean law) {
        String where = "'" + text + "' in state " + state;
        LetterQuay twin = made(state);
        LetterQuay x = made(state);
        twin.end(0);
        int[] before = refusals(x);
        CHECK.due(where, law ? Check.law(x, text) : Check.orders(x, text), want);
        CHECK.due("status() behind " + where, x.status(), want);
        CHECK.due("fault() behind " + where, x.fault(), fault);
        CHECK.due("count(5) behind " + where, x.count(5), 0);
        for (int i = 0; i < 5; i++) {
            CHECK.due("count(" + (6 + i) + ") behind " + where, x.count(6 + i), before[i] + (BY[i] == want ? 1 : 0));
        }
        CHECK.due("stopped() behind " + where, x.stopped(), want == -3 ? 2 : -1);
        // So that both are alike in what the document lets change.
        Check.orders(x, "decree 0 if 1=2");
        Check.orders(twin, "decree 0 if 1=2");
        same(where, Look.at(x), Look.at(twin));
        same(where, Look.atLast(x), Look.atLast(twin));
    }
}
