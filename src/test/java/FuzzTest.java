import java.nio.charset.StandardCharsets;
import java.util.Random;

/** Long runs of drawn calls, each answer held against Model's; the draws are the same at each run of the test. */
public final class FuzzTest {
    private static final int RUNS = 1500;
    private static final int CALLS = 400;

    private final Random random;
    private final LetterQuay quay = new LetterQuay();
    private final Model model = new Model();
    private final StringBuilder told = new StringBuilder();
    private final int run;

    private FuzzTest(int run) {
        this.run = run;
        this.random = new Random(run);
    }

    public static void main(String[] args) {
        int runs = args.length > 0 ? Integer.parseInt(args[0]) : RUNS;
        int wrong = 0;
        for (int run = 0; run < runs && wrong < 3; run++) {
            FuzzTest one = new FuzzTest(run);
            if (!one.play()) {
                wrong++;
                System.out.println(one.told);
            }
        }
        System.out.println(runs + " runs, " + wrong + " of them wrong");
        if (wrong != 0) {
            System.exit(1);
        }
    }

    private boolean play() {
        int people = random.nextInt(7);
        for (int i = 0; i < people; i++) {
            if (!call(0)) {
                return false;
            }
        }
        for (int n = 0; n < CALLS; n++) {
            int what = random.nextInt(44);
            if (isDull(what) && random.nextInt(5) != 0) {
                continue;
            }
            if (!call(what)) {
                return false;
            }
        }
        return true;
    }

    /** Some calls are dear for Model, some fill the quay or forget what can be undone when they come too often. */
    private static boolean isDull(int what) {
        return what == 0 || what == 7 || what == 8 || what >= 32 && what <= 34 || what == 38;
    }

    private boolean same(String call, long got, long want) {
        told.append("  ").append(call).append(" = ").append(got).append('\n');
        if (got != want) {
            told.insert(0, "run " + run + ":\n");
            told.append("  due is ").append(want).append('\n');
            return false;
        }
        return true;
    }

    /** Mostly within low .. high, now and then just outside, seldom far off. */
    private int any(int low, int high) {
        int d = random.nextInt(40);
        if (d == 0) {
            return low - 1;
        }
        if (d == 1) {
            return high + 1;
        }
        if (d == 2 && random.nextInt(5) == 0) {
            int[] far = {Integer.MIN_VALUE, Integer.MAX_VALUE, -2, 1000000, Integer.MIN_VALUE + 1, 12345};
            return far[random.nextInt(far.length)];
        }
        return low + random.nextInt(high - low + 1);
    }

    private int who() {
        return any(0, Math.max(0, quay.count(0) - 1));
    }

    private int name() {
        int name = 0;
        int length = 1 + random.nextInt(4);
        for (int k = 0; k < length; k++) {
            name = name * 10 + any(1, random.nextBoolean() ? 5 : 2);
        }
        return name;
    }

    private boolean text(boolean orders) {
        String text = new TextDraws(random, orders).text();
        byte[] bytes = text.getBytes(StandardCharsets.ISO_8859_1);
        if (!same("end(0)", quay.end(0), model.end(0))) {
            return false;
        }
        for (int start = 0; start < bytes.length; start += 20) {
            int[] f = new int[5];
            for (int k = 0; k < 20; k++) {
                f[k / 4] = f[k / 4] << 8 | (start + k < bytes.length ? bytes[start + k] & 255 : 0);
            }
            quay.feed(f[0], f[1], f[2], f[3], f[4]);
            model.feed(f[0], f[1], f[2], f[3], f[4]);
        }
        told.append("  '").append(text).append("'\n");
        return same("end(" + bytes.length + ")", quay.end(bytes.length), model.end(bytes.length));
    }

    private boolean bytes() {
        int fours = 1 + random.nextInt(5);
        for (int n = 0; n < fours; n++) {
            int[] f = new int[5];
            for (int i = 0; i < 5; i++) {
                int length = random.nextInt(5);
                for (int k = 0; k < 4; k++) {
                    f[i] = f[i] << 8 | (k < length ? any(0, 5) & 255 : 0);
                }
                if (random.nextInt(3) > 0) {
                    f[i] = 0x06000000;
                }
            }
            if (!same("feed(..)", quay.feed(f[0], f[1], f[2], f[3], f[4]), model.feed(f[0], f[1], f[2], f[3], f[4]))) {
                return false;
            }
        }
        int n = any(0, quay.count(5));
        return same("end(" + n + ")", quay.end(n), model.end(n)) && same("row()", quay.row(), model.row());
    }

    private boolean call(int what) {
        int a;
        int b;
        int c;
        switch (what) {
            case 0: a = name(); return same("person(" + a + ")", quay.person(a), model.person(a));
            case 1: a = who(); b = any(0, 3); return same("of(" + a + ", " + b + ")", quay.of(a, b), model.of(a, b));
            case 2: a = who(); return same("at(" + a + ")", quay.at(a), model.at(a));
            case 3: a = who(); b = any(0, 3); c = any(1, 5); return same("asks(" + a + ", " + b + ", " + c + ")", quay.asks(a, b, c), model.asks(a, b, c));
            case 4: case 5: a = who(); b = any(1, 5); c = any(1, 5); return same("says(" + a + ", " + b + ", " + c + ")", quay.says(a, b, c), model.says(a, b, c));
            case 6: return same("alphabet()", quay.alphabet(), model.alphabet());
            case 7: a = any(0, 2); b = random.nextInt(4) == 0 ? any(990, 999) : any(0, 10); return same("terms(" + a + ", " + b + ")", quay.terms(a, b), model.terms(a, b));
            case 8: return bytes();
            case 9: return text(false) && same("law()", quay.law(), model.law()) && same("fault()", quay.fault(), model.fault());
            case 10: case 11: case 12: return text(true) && same("orders()", quay.orders(), model.orders()) && same("fault()", quay.fault(), model.fault()) && same("stopped()", quay.stopped(), model.stopped());
            case 13: a = any(-1, quay.count(3) - 1); return same("force(" + a + ")", quay.force(a), model.force(a));
            case 14: case 15: a = who(); b = any(0, 3); c = any(1, 5); return same("stroke(" + a + ", " + b + ", " + c + ")", quay.stroke(a, b, c), model.stroke(a, b, c));
            case 16: a = who(); return same("swap(" + a + ")", quay.swap(a), model.swap(a));
            case 17: a = any(0, 3); return same("decree(" + a + ")", quay.decree(a), model.decree(a));
            case 18: return same("pass()", quay.pass(), model.pass());
            case 19: return same("undo()", quay.undo(), model.undo());
            case 20: a = who(); b = who(); return same("ahead(" + a + ", " + b + ")", quay.ahead(a, b), model.ahead(a, b));
            case 21: a = any(-1, 5); return same("breaks(" + a + ")", quay.breaks(a), model.breaks(a));
            case 22: return same("swaps()", quay.swaps(), model.swaps());
            case 23: a = any(0, 1); return same("out(" + a + ")", quay.out(a), model.out(a));
            case 24: a = random.nextBoolean() ? -1 : any(-1, 120); return same("right(" + a + ")", quay.right(a), model.right(a));
            case 25: case 26: a = who(); b = who(); return same("heard(" + a + ", " + b + ")", quay.heard(a, b), model.heard(a, b));
            case 27: return random.nextInt(4) > 0 || same("forget()", quay.forget(), model.forget());
            case 28: a = random.nextBoolean() ? -1 : any(-1, 120); return same("fits(" + a + ")", quay.fits(a), model.fits(a));
            case 29: a = any(0, 1); return same("ask(" + a + ")", quay.ask(a), model.ask(a));
            case 30: a = any(1, 5); return same("whisper(" + a + ")", quay.whisper(a), model.whisper(a));
            case 31: a = any(1, 5); return same("from(" + a + ")", quay.from(a), model.from(a));
            case 32: return clearest();
            case 33: return mend();
            case 34: a = any(-1, quay.count(3) - 1); return same("compare(" + a + ")", quay.compare(a), model.compare(a));
            case 35: a = any(1, 20); b = any(0, 99); return same("comes(" + a + ", " + b + ")", quay.comes(a, b), model.comes(a, b));
            case 36: a = any(0, 1000000); b = any(1, 60); return same("weeks(" + a + ", " + b + ")", quay.weeks(a, b), model.weeks(a, b));
            case 37: a = any(0, 6); b = any(0, 1); return same("drawn(" + a + ", " + b + ")", quay.drawn(a, b), model.drawn(a, b));
            case 38: a = any(0, 1); return same("image(" + a + ")", quay.image(a), model.image(a));
            case 39: a = any(0, 1); return random.nextInt(4) > 0 || same("back(" + a + ")", quay.back(a), model.back(a));
            case 40: return same("misprints()", quay.misprints(), model.misprints());
            case 41: a = any(0, 14); return same("count(" + a + ")", quay.count(a), model.count(a));
            case 42: return same("status()", quay.status(), model.status());
            default: return counts();
        }
    }

    private boolean counts() {
        for (int a = 0; a < 15; a++) {
            if (!same("count(" + a + ")", quay.count(a), model.count(a))) {
                return false;
            }
        }
        return same("status()", quay.status(), model.status());
    }

    private boolean mend() {
        for (int a = 0; a <= quay.count(0) + 1; a++) {
            if (!same("mend(" + a + ")", quay.mend(a), model.mend(a))) {
                return false;
            }
        }
        return true;
    }

    private boolean clearest() {
        if (quay.count(0) > 5 && random.nextInt(8) > 0) {
            return true;
        }
        int a = any(-1, 6);
        return same("clearest(-1)", quay.clearest(-1), model.clearest(-1)) && same("clearest(" + a + ")", quay.clearest(a), model.clearest(a));
    }
}
