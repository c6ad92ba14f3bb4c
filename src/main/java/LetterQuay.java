import java.util.Arrays;

/** A quay on which alphabetical order is enforced; DOC.md numbers what each method promises. */
public final class LetterQuay {
    public static final int NONE = -1;

    private static final int WRONG_NUMBER = -1;
    private static final int NO_SUCH = -2;
    private static final int CANNOT_BE = -3;
    private static final int NO_ROOM = -5;
    private static final int BAD_TEXT = -6;

    private static final int MOST_PEOPLE = 7;
    private static final int LETTERS = 5;
    private static final int LONGEST_NAME = 4;
    private static final int MOST_HEARD = 8;
    private static final int MOST_LAWS = 6;
    private static final int MOST_CLAUSES = 12;
    private static final int MOST_PARTS = 50;
    private static final int MOST_BRACKETS = 8;
    private static final int MOST_TIMES = 20;
    private static final int HIGHEST_NUMBER = 1000;
    private static final int TAPE_ROOM = 400;
    private static final int FEED = 20;
    private static final int LAST_DAY = 999;
    private static final int ALPHABETS = 120;
    private static final int DEEDS_KEPT = 16;
    private static final int MOST_STEPS = 99;
    private static final int MOST_SLIPS = 20;
    private static final int MOST_WEEKS = 60;
    private static final int HIGHEST_SEED = 1_000_000;
    private static final long WHOLE_CHANCE = 1_000_000_000_000L;

    private static final int DAY = 0;
    private static final int SLIP = 1;
    private static final int MOOD = 2;

    /** The first four are what undo() answers too. */
    private static final int STROKE = 0;
    private static final int SWAP = 1;
    private static final int DECREE = 2;
    private static final int PASS = 3;
    private static final int STROKES = 4;
    private static final int STEPS = 5;
    private static final int BARS = 6;

    /** Outside of what a SUM may be, so that a value and its being BROKEN go in one int. */
    private static final int BROKEN = -2_000_000_000;

    private static final int DAY_WORD = 0;
    private static final int DONE_WORD = 1;
    private static final int LATEST_WORD = 2;
    private static final int BREAKS_WORD = 3;
    private static final int SWAPS_WORD = 4;
    private static final int WHO_WORDS = 5;
    private static final int NAME_WORDS = WHO_WORDS + MOST_PEOPLE;
    private static final int ORDER_WORDS = NAME_WORDS + MOST_PEOPLE;
    private static final int LAW_WORDS = 8;

    private static final int[] TENS = {1000, 100, 10, 1};
    private static final int[] HIGHEST_TERMS = {999, 10, 9};

    private final Quay quay = new Quay();
    /** Null where none was kept. */
    private final Quay[] images = new Quay[2];
    private final Quay before = new Quay();
    /** Has nobody ahead of the first WEEKS. */
    private final Quay paper = new Quay();
    private final Log log = new Log();
    private final Log logBefore = new Log();
    private final int[] tape = new int[TAPE_ROOM];
    private int tapeLength = 0;
    private final Reader reader = new Reader();
    private final Court court = new Court();
    private final Alphabets alphabets = new Alphabets();
    private final Mender mender = new Mender();
    private final Clearing clearing = new Clearing();
    private final int[] orderWords = new int[ORDER_WORDS];
    private final int[] refused = new int[5];
    private int fault = NONE;
    private int stopped = NONE;
    private int misprints = 0;
    private int status = 0;

    public LetterQuay() {
    }

    // ---- people ----

    public int person(int name) {
        if (!Names.isName(name)) {
            return refuse(WRONG_NUMBER);
        }
        if (!quay.hasRoom()) {
            return refuse(NO_ROOM);
        }
        log.clear();
        return accept(quay.add(name));
    }

    public int of(int person, int what) {
        if (!quay.has(person)) {
            return NONE;
        }
        switch (what) {
            case 0:
                return quay.names[person];
            case 1:
                return quay.places[person];
            case 2:
                return court.stepCost(quay, quay.inForce(), person);
            case 3:
                return court.isBarred(quay, quay.inForce(), person) ? 1 : 0;
            default:
                return NONE;
        }
    }

    public int at(int place) {
        return quay.has(place) ? quay.row[place] : NONE;
    }

    public int asks(int person, int k, int letter) {
        if (!quay.has(person) || !isLetterPlace(k) || !isLetter(letter)) {
            return NONE;
        }
        int old = Names.letterOf(quay.names[person], k);
        if (old == 0 || old == letter) {
            return NONE;
        }
        return court.strokeCost(quay, quay.inForce(), person, k, letter);
    }

    public int says(int person, int hears, int letter) {
        if (!isLetter(hears) || !isLetter(letter)) {
            return refuse(WRONG_NUMBER);
        }
        if (!quay.has(person)) {
            return refuse(NO_SUCH);
        }
        int old = quay.said(person, hears);
        quay.teach(person, hears, letter);
        return accept(old);
    }

    public int alphabet() {
        return quay.alphabetNumber();
    }

    public int terms(int what, int value) {
        if (what < 0 || what >= HIGHEST_TERMS.length || value < 0 || value > HIGHEST_TERMS[what]) {
            return refuse(WRONG_NUMBER);
        }
        int old = quay.terms[what];
        quay.terms[what] = value;
        log.clear();
        return accept(old);
    }

    // ---- the tape ----

    public int feed(int a, int b, int c, int d, int e) {
        if (tapeLength > TAPE_ROOM - FEED) {
            return NONE;
        }
        putFour(a);
        putFour(b);
        putFour(c);
        putFour(d);
        putFour(e);
        return tapeLength;
    }

    public int end(int n) {
        if (n < 0 || n > tapeLength) {
            return NONE;
        }
        tapeLength = n;
        return n;
    }

    public int row() {
        if (tapeLength == 0) {
            return refuse(BAD_TEXT);
        }
        int came = 0;
        int bad = 0;
        for (int start = 0; start < tapeLength; start += LONGEST_NAME) {
            int name = nameOnTape(start);
            if (Names.isName(name) && quay.hasRoom()) {
                quay.add(name);
                came++;
            } else {
                bad++;
            }
        }
        tapeLength = 0;
        misprints = bad;
        log.clear();
        return accept(came);
    }

    public int misprints() {
        return misprints;
    }

    public int law() {
        int length = tapeLength;
        tapeLength = 0;
        if (quay.laws >= MOST_LAWS) {
            return refuse(NO_ROOM);
        }
        Text text = reader.read(tape, length, false);
        fault = reader.faultPlace();
        if (text == null) {
            return refuse(BAD_TEXT);
        }
        return accept(quay.addLaw(text));
    }

    public int orders() {
        int length = tapeLength;
        tapeLength = 0;
        Text text = reader.read(tape, length, true);
        fault = reader.faultPlace();
        stopped = NONE;
        if (text == null) {
            return refuse(BAD_TEXT);
        }
        before.copyFrom(quay);
        logBefore.copyFrom(log);
        orderWords[DONE_WORD] = 0;
        orderWords[LATEST_WORD] = NONE;
        for (int i = 0; i < text.size && i < MOST_CLAUSES; i++) {
            if (!runClause(text, text.clauses[i])) {
                quay.copyFrom(before);
                log.copyFrom(logBefore);
                stopped = i;
                return refuse(CANNOT_BE);
            }
        }
        return accept(orderWords[DONE_WORD]);
    }

    public int fault() {
        return fault;
    }

    public int stopped() {
        return stopped;
    }

    public int force(int law) {
        if (law != NONE && !quay.hasLaw(law)) {
            return refuse(NO_SUCH);
        }
        int old = quay.force;
        quay.force = law;
        return accept(old);
    }

    // ---- changes ----

    public int stroke(int person, int k, int letter) {
        return settle(strokeNow(person, k, letter));
    }

    public int swap(int place) {
        return settle(swapNow(place));
    }

    public int decree(int k) {
        return settle(decreeNow(k));
    }

    public int pass() {
        return settle(passNow());
    }

    public int undo() {
        if (log.size == 0) {
            return refuse(CANNOT_BE);
        }
        int deed = log.take();
        int kind = Log.kindOf(deed);
        switch (kind) {
            case STROKE:
                quay.write(Log.firstOf(deed), Log.secondOf(deed), Log.thirdOf(deed));
                break;
            case SWAP:
                quay.exchange(Log.firstOf(deed));
                break;
            case DECREE:
                quay.turn(Log.firstOf(deed));
                break;
            default:
                quay.terms[DAY]--;
                break;
        }
        return accept(kind);
    }

    // ---- the order of the row ----

    public int ahead(int one, int other) {
        if (!quay.has(one) || !quay.has(other)) {
            return NONE;
        }
        int difference = Names.differ(quay.names[one], quay.names[other]);
        if (difference == 0) {
            return 0;
        }
        return Names.isMet(difference, quay.order) ? 1 : 2;
    }

    public int breaks(int i) {
        return quay.breakAt(i);
    }

    public int swaps() {
        return quay.inversions();
    }

    public int out(int what) {
        if (what != 0 && what != 1) {
            return NONE;
        }
        int places = quay.fewestOut();
        return what == 0 ? Integer.bitCount(places) : places;
    }

    public int right(int i) {
        alphabets.clear();
        for (int place = 0; place + 1 < quay.people; place++) {
            int difference = Names.differ(quay.nameAt(place), quay.nameAt(place + 1));
            if (difference != 0) {
                alphabets.demand(difference);
            }
        }
        return alphabets.found(i);
    }

    public int heard(int one, int other) {
        if (one == other) {
            return refuse(WRONG_NUMBER);
        }
        if (!quay.has(one) || !quay.has(other)) {
            return refuse(NO_SUCH);
        }
        if (quay.heard >= MOST_HEARD) {
            return refuse(NO_ROOM);
        }
        return accept(quay.hear(one, other));
    }

    public int forget() {
        int old = quay.heard;
        quay.heard = 0;
        return old;
    }

    public int fits(int i) {
        demandHeard();
        return alphabets.found(i);
    }

    public int ask(int what) {
        if (what != 0 && what != 1) {
            return NONE;
        }
        demandHeard();
        return alphabets.bestTwo(quay, what);
    }

    // ---- names by which it is right ----

    public int mend(int what) {
        if (what < 0 || what > quay.people) {
            return NONE;
        }
        int cost = mender.leastCost(quay, quay.inForce(), court);
        if (what == 0 || cost == NONE) {
            return cost;
        }
        return mender.nameFor(quay, what - 1);
    }

    public int compare(int law) {
        if (law != NONE && !quay.hasLaw(law)) {
            return NONE;
        }
        return mender.leastCost(quay, quay.lawOf(law), court);
    }

    // ---- what is said along the row ----

    public int whisper(int letter) {
        return isLetter(letter) ? quay.toldAlong(letter) : NONE;
    }

    public int from(int letter) {
        if (!isLetter(letter)) {
            return NONE;
        }
        int bits = 0;
        for (int first = 1; first <= LETTERS; first++) {
            if (quay.toldAlong(first) == letter) {
                bits |= 1 << (first - 1);
            }
        }
        return bits;
    }

    public int clearest(int i) {
        if (i != NONE && !quay.has(i)) {
            return NONE;
        }
        clearing.seek(quay);
        return i == NONE ? clearing.most : clearing.best[i];
    }

    public long comes(int k, int n) {
        if (k < 1 || k > MOST_SLIPS || n < 0 || n > MOST_STEPS) {
            return NONE;
        }
        int slip = quay.terms[SLIP];
        long[] chances = new long[k];
        chances[0] = WHOLE_CHANCE;
        for (int step = 0; step < n; step++) {
            for (int slips = k - 1; slips > 0; slips--) {
                chances[slips] = chances[slips] * (10 - slip) / 10 + chances[slips - 1] * slip / 10;
            }
            chances[0] = chances[0] * (10 - slip) / 10;
        }
        long sum = 0;
        for (int slips = 0; slips < k; slips++) {
            sum += chances[slips];
        }
        return sum;
    }

    // ---- weeks by draws ----

    public int weeks(int seed, int n) {
        if (seed < 0 || seed > HIGHEST_SEED || n < 1 || n > MOST_WEEKS) {
            return refuse(WRONG_NUMBER);
        }
        if (quay.people == 0) {
            return refuse(CANNOT_BE);
        }
        paper.copyFrom(quay);
        int s = seed;
        int right = 0;
        for (int time = 0; time < n && paper.terms[DAY] < LAST_DAY; time++) {
            int first = draw(s);
            int second = draw(first);
            s = draw(second);
            drawnDeed(first % quay.people, second % 4, s % LETTERS + 1);
            paper.terms[DAY]++;
            if (paper.breakAt(NONE) == 0) {
                right++;
            }
        }
        return accept(right);
    }

    public int drawn(int person, int what) {
        if (!paper.has(person)) {
            return NONE;
        }
        if (what == 0) {
            return paper.names[person];
        }
        return what == 1 ? paper.places[person] : NONE;
    }

    // ---- images and counts ----

    public int image(int k) {
        if (k != 0 && k != 1) {
            return refuse(WRONG_NUMBER);
        }
        Quay kept = images[k];
        if (kept == null) {
            kept = new Quay();
            images[k] = kept;
        }
        kept.copyFrom(quay);
        return accept(0);
    }

    public int back(int k) {
        if (k != 0 && k != 1) {
            return refuse(WRONG_NUMBER);
        }
        Quay kept = images[k];
        if (kept == null) {
            return refuse(NO_SUCH);
        }
        quay.copyFrom(kept);
        log.clear();
        return accept(0);
    }

    public int count(int what) {
        switch (what) {
            case 0:
                return quay.people;
            case 1:
                return quay.breakAt(NONE);
            case 2:
                return quay.heard;
            case 3:
                return quay.laws;
            case 4:
                return log.size;
            case 5:
                return tapeLength;
            case 6:
            case 7:
            case 8:
            case 9:
            case 10:
                return refused[what - 6];
            case 11:
                return quay.force;
            case 12:
            case 13:
            case 14:
                return quay.terms[what - 12];
            default:
                return NONE;
        }
    }

    public int status() {
        return status;
    }

    // ---- answers of the calls that status() tells of ----

    private int accept(int answer) {
        status = 0;
        return answer;
    }

    private int refuse(int number) {
        status = number;
        // There is no -4, so the last two stand one nearer.
        int slot = number >= CANNOT_BE ? -number - 1 : -number - 2;
        if (slot >= 0 && slot < refused.length) {
            refused[slot]++;
        }
        return number;
    }

    /** For calls that never answer below 0 unless they are REFUSED. */
    private int settle(int answer) {
        return answer < 0 ? refuse(answer) : accept(answer);
    }

    private static boolean isLetter(int letter) {
        return letter >= 1 && letter <= LETTERS;
    }

    private static boolean isLetterPlace(int k) {
        return k >= 0 && k < LONGEST_NAME;
    }

    // ---- changes, by a call or by ORDERS ----

    private int strokeNow(int person, int k, int letter) {
        if (!isLetterPlace(k) || !isLetter(letter)) {
            return WRONG_NUMBER;
        }
        if (!quay.has(person)) {
            return NO_SUCH;
        }
        int old = Names.letterOf(quay.names[person], k);
        if (old == 0 || old == letter || court.isBarred(quay, quay.inForce(), person)) {
            return CANNOT_BE;
        }
        int cost = court.strokeCost(quay, quay.inForce(), person, k, letter);
        quay.write(person, k, letter);
        log.add(STROKE, person, k, old);
        return cost;
    }

    private int swapNow(int place) {
        if (!quay.has(place) || !quay.has(place + 1)) {
            return NO_SUCH;
        }
        Text law = quay.inForce();
        int cost = court.stepCost(quay, law, quay.row[place]) + court.stepCost(quay, law, quay.row[place + 1]);
        quay.exchange(place);
        log.add(SWAP, place, 0, 0);
        return cost;
    }

    private int decreeNow(int k) {
        if (k < 0 || k > LETTERS - 2) {
            return WRONG_NUMBER;
        }
        quay.turn(k);
        log.add(DECREE, k, 0, 0);
        return quay.alphabetNumber();
    }

    private int passNow() {
        if (quay.terms[DAY] >= LAST_DAY) {
            return CANNOT_BE;
        }
        quay.terms[DAY]++;
        log.add(PASS, 0, 0, 0);
        return quay.terms[DAY];
    }

    // ---- ORDERS ----

    /** Whether the CLAUSE could be, each time that it was due. */
    private boolean runClause(Text text, Clause clause) {
        if (clause == null) {
            return false;
        }
        for (int time = 0; time < clause.times; time++) {
            fillOrderWords();
            if (court.reckoner.reckon(text, clause.test, orderWords, 1) == 1) {
                if (runDeed(text, clause) < 0) {
                    return false;
                }
                orderWords[DONE_WORD]++;
            }
        }
        return true;
    }

    private int runDeed(Text text, Clause clause) {
        Reckoner reckoner = court.reckoner;
        int first = reckoner.reckon(text, clause.first, orderWords, 0);
        int second = reckoner.reckon(text, clause.second, orderWords, 0);
        int third = reckoner.reckon(text, clause.third, orderWords, 0);
        if (first == BROKEN || second == BROKEN || third == BROKEN) {
            return CANNOT_BE;
        }
        switch (clause.kind) {
            case STROKE:
                int told = strokeNow(first, second, third);
                orderWords[LATEST_WORD] = told;
                return told;
            case SWAP:
                return swapNow(first);
            case DECREE:
                return decreeNow(first);
            default:
                return passNow();
        }
    }

    /** All but "done" and "latest", which the run itself keeps. */
    private void fillOrderWords() {
        orderWords[DAY_WORD] = quay.terms[DAY];
        orderWords[BREAKS_WORD] = quay.breakAt(NONE);
        orderWords[SWAPS_WORD] = quay.inversions();
        for (int i = 0; i < MOST_PEOPLE; i++) {
            boolean there = quay.has(i);
            orderWords[WHO_WORDS + i] = there ? quay.row[i] : NONE;
            orderWords[NAME_WORDS + i] = there ? quay.names[i] : NONE;
        }
    }

    // ---- helpers of single calls ----

    private void putFour(int four) {
        for (int shift = 24; shift >= 0 && tapeLength < TAPE_ROOM; shift -= 8) {
            tape[tapeLength] = (four >>> shift) & 255;
            tapeLength++;
        }
    }

    /** The NAME that four bytes are, or 0, which is none. */
    private int nameOnTape(int start) {
        if (start < 0 || start + LONGEST_NAME > tapeLength) {
            return 0;
        }
        int name = 0;
        boolean ended = false;
        for (int k = 0; k < LONGEST_NAME; k++) {
            int letter = tape[start + k];
            if (letter == 0) {
                ended = true;
            } else if (ended || letter > LETTERS) {
                return 0;
            } else {
                name = name * 10 + letter;
            }
        }
        return name;
    }

    private void demandHeard() {
        alphabets.clear();
        for (int i = 0; i < quay.heard && i < MOST_HEARD; i++) {
            // ALIKE ones leave 0, which no ALPHABET meets: none is AHEAD then.
            alphabets.demand(Names.differ(quay.nameOf(quay.ones[i]), quay.nameOf(quay.others[i])));
        }
    }

    /** The s that follows, which a DRAW takes modulo what it is of. */
    private static int draw(int s) {
        return (int) ((s * 1103L + 12345L) % 1_000_003L);
    }

    private void drawnDeed(int who, int what, int letter) {
        if (what <= 1) {
            if (paper.has(who + 1)) {
                paper.exchange(who);
            }
            return;
        }
        if (what != 2 || !paper.has(who) || Names.letterOf(paper.names[who], 0) == letter) {
            return;
        }
        if (!court.isBarred(paper, paper.inForce(), who)) {
            paper.write(who, 0, letter);
        }
    }

    // ---- classes of its own ----

    /** What can be told of NAMES as numbers. */
    private static final class Names {
        static boolean isName(int name) {
            if (name < 1 || name > 5555) {
                return false;
            }
            for (int k = 0, rest = name; k < LONGEST_NAME && rest > 0; k++, rest /= 10) {
                if (!isLetter(rest % 10)) {
                    return false;
                }
            }
            return true;
        }

        static int lengthOf(int name) {
            if (name < 10) {
                return 1;
            }
            if (name < 100) {
                return 2;
            }
            return name < 1000 ? 3 : 4;
        }

        /** Zeros behind, so that LETTERS of two NAMES stand above one another. */
        private static int padded(int name) {
            int full = name;
            for (int k = 1; k < LONGEST_NAME && full < 1000; k++) {
                full *= 10;
            }
            return full;
        }

        /** 0 where the NAME has no LETTER. */
        static int letterOf(int name, int k) {
            return isLetterPlace(k) ? padded(name) / TENS[k] % 10 : 0;
        }

        static int withLetter(int name, int k, int letter) {
            int back = LONGEST_NAME - lengthOf(name) + k;
            if (k < 0 || back < 0 || back >= TENS.length) {
                return name;
            }
            return name + (letter - letterOf(name, k)) * TENS[back];
        }

        /** Ten times the LETTER of one and that of the other one where they first differ (0: its end); 0 if ALIKE. */
        static int differ(int one, int other) {
            int left = padded(one);
            int right = padded(other);
            for (int k = 0; k < TENS.length; k++) {
                int ofOne = left / TENS[k] % 10;
                int ofOther = right / TENS[k] % 10;
                if (ofOne != ofOther) {
                    return 10 * ofOne + ofOther;
                }
            }
            return 0;
        }

        /** Whether a difference puts the one AHEAD; order tells the place of each LETTER, that of 0 ahead of all. */
        static boolean isMet(int difference, int[] order) {
            int one = difference / 10;
            int other = difference % 10;
            return one >= 0 && one < order.length && other >= 0 && other < order.length && order[one] < order[other];
        }
    }

    /** All that an IMAGE keeps. */
    private static final class Quay {
        int people = 0;
        final int[] names = new int[MOST_PEOPLE];
        final int[] row = new int[MOST_PEOPLE];
        final int[] places = new int[MOST_PEOPLE];
        private final int[] sayings = new int[MOST_PEOPLE * LETTERS];
        final int[] letters = {1, 2, 3, 4, 5};
        final int[] order = {-1, 0, 1, 2, 3, 4};
        final int[] terms = {0, 1, 0};
        int heard = 0;
        final int[] ones = new int[MOST_HEARD];
        final int[] others = new int[MOST_HEARD];
        int laws = 0;
        private final Text[] texts = new Text[MOST_LAWS];
        int force = NONE;

        void copyFrom(Quay other) {
            people = other.people;
            System.arraycopy(other.names, 0, names, 0, MOST_PEOPLE);
            System.arraycopy(other.row, 0, row, 0, MOST_PEOPLE);
            System.arraycopy(other.places, 0, places, 0, MOST_PEOPLE);
            System.arraycopy(other.sayings, 0, sayings, 0, MOST_PEOPLE * LETTERS);
            System.arraycopy(other.letters, 0, letters, 0, LETTERS);
            System.arraycopy(other.order, 0, order, 0, LETTERS + 1);
            System.arraycopy(other.terms, 0, terms, 0, HIGHEST_TERMS.length);
            heard = other.heard;
            System.arraycopy(other.ones, 0, ones, 0, MOST_HEARD);
            System.arraycopy(other.others, 0, others, 0, MOST_HEARD);
            laws = other.laws;
            for (int i = 0; i < MOST_LAWS; i++) {
                texts[i] = other.texts[i];
            }
            force = other.force;
        }

        /** Of a PERSON or a PLACE: there are as many of both. */
        boolean has(int person) {
            return person >= 0 && person < people && person < MOST_PEOPLE;
        }

        boolean hasRoom() {
            return people >= 0 && people < MOST_PEOPLE;
        }

        int add(int name) {
            if (!hasRoom()) {
                return NONE;
            }
            int person = people;
            people++;
            names[person] = name;
            row[person] = person;
            places[person] = person;
            for (int letter = 1; letter <= LETTERS; letter++) {
                teach(person, letter, letter);
            }
            return person;
        }

        int said(int person, int hears) {
            return has(person) && isLetter(hears) ? sayings[person * LETTERS + hears - 1] : hears;
        }

        void teach(int person, int hears, int letter) {
            if (has(person) && isLetter(hears)) {
                sayings[person * LETTERS + hears - 1] = letter;
            }
        }

        int nameOf(int person) {
            return has(person) ? names[person] : 0;
        }

        int nameAt(int place) {
            return has(place) ? nameOf(row[place]) : 0;
        }

        void write(int person, int k, int letter) {
            if (has(person)) {
                names[person] = Names.withLetter(names[person], k, letter);
            }
        }

        void exchange(int place) {
            if (!has(place) || !has(place + 1)) {
                return;
            }
            int one = row[place];
            int other = row[place + 1];
            if (has(one) && has(other)) {
                row[place] = other;
                row[place + 1] = one;
                places[other] = place;
                places[one] = place + 1;
            }
        }

        /** A DECREE. */
        void turn(int k) {
            if (k < 0 || k > LETTERS - 2) {
                return;
            }
            int one = letters[k];
            int other = letters[k + 1];
            if (isLetter(one) && isLetter(other)) {
                letters[k] = other;
                letters[k + 1] = one;
                order[other] = k;
                order[one] = k + 1;
            }
        }

        int alphabetNumber() {
            int number = 0;
            for (int k = 0; k < LETTERS; k++) {
                number = number * 10 + letters[k];
            }
            return number;
        }

        int hear(int one, int other) {
            if (heard >= 0 && heard < MOST_HEARD) {
                ones[heard] = one;
                others[heard] = other;
                heard++;
            }
            return heard;
        }

        boolean hasLaw(int law) {
            return law >= 0 && law < laws && law < MOST_LAWS;
        }

        /** Null for NONE. */
        Text lawOf(int law) {
            return hasLaw(law) ? texts[law] : null;
        }

        Text inForce() {
            return lawOf(force);
        }

        int addLaw(Text text) {
            int law = laws;
            if (law >= 0 && law < MOST_LAWS) {
                texts[law] = text;
                laws++;
            }
            return law;
        }

        private boolean isAhead(int name, int other) {
            return Names.isMet(Names.differ(name, other), order);
        }

        /** The i-th PLACE of BREAKS, or how many there are. */
        int breakAt(int i) {
            int found = 0;
            for (int place = 0; place + 1 < people; place++) {
                if (isAhead(nameAt(place + 1), nameAt(place))) {
                    if (found == i) {
                        return place;
                    }
                    found++;
                }
            }
            return i == NONE ? found : NONE;
        }

        /** Each exchange of neighbours can put right one pair alone, so that SWAPS are as many as wrong pairs. */
        int inversions() {
            int found = 0;
            for (int place = 0; place < people; place++) {
                int name = nameAt(place);
                for (int behind = place + 1; behind < people; behind++) {
                    if (isAhead(nameAt(behind), name)) {
                        found++;
                    }
                }
            }
            return found;
        }

        int fewestOut() {
            int best = 0;
            int fewest = MOST_PEOPLE + 1;
            for (int places = 0; places < 1 << people && places < 1 << MOST_PEOPLE; places++) {
                int size = Integer.bitCount(places);
                if (size < fewest && isRightWithout(places)) {
                    fewest = size;
                    best = places;
                }
            }
            return best;
        }

        private boolean isRightWithout(int places) {
            int last = 0;
            for (int place = 0; place < people; place++) {
                if ((places >> place & 1) == 0) {
                    int name = nameAt(place);
                    if (last != 0 && isAhead(name, last)) {
                        return false;
                    }
                    last = name;
                }
            }
            return true;
        }

        int toldAlong(int letter) {
            int told = letter;
            for (int place = 0; place < people && has(place); place++) {
                told = said(row[place], told);
            }
            return told;
        }
    }

    /** What can be undone, the latest last; each deed as one number, so that a copy is cheap. */
    private static final class Log {
        int size = 0;
        private final int[] deeds = new int[DEEDS_KEPT];

        void clear() {
            size = 0;
        }

        void copyFrom(Log other) {
            size = other.size;
            System.arraycopy(other.deeds, 0, deeds, 0, DEEDS_KEPT);
        }

        void add(int kind, int first, int second, int third) {
            if (size >= DEEDS_KEPT) {
                System.arraycopy(deeds, 1, deeds, 0, DEEDS_KEPT - 1);
                size = DEEDS_KEPT - 1;
            }
            if (size >= 0) {
                deeds[size] = 1000 * kind + 100 * first + 10 * second + third;
                size++;
            }
        }

        int take() {
            if (size < 1 || size > DEEDS_KEPT) {
                return 0;
            }
            size--;
            return deeds[size];
        }

        static int kindOf(int deed) {
            return deed / 1000;
        }

        static int firstOf(int deed) {
            return deed / 100 % 10;
        }

        static int secondOf(int deed) {
            return deed / 10 % 10;
        }

        static int thirdOf(int deed) {
            return deed % 10;
        }
    }

    /** A CLAUSE of either language: where its SUMS and its TEST begin in the TEXT's code. */
    private static final class Clause {
        int kind = PASS;
        int times = 1;
        int first = NONE;
        int second = NONE;
        int third = NONE;
        int test = NONE;
    }

    /** A TEXT without FAULT; it is never changed once it is read, so IMAGES may share it. */
    private static final class Text {
        final Clause[] clauses = new Clause[MOST_CLAUSES];
        int size = 0;
        int[] code = null;

        Clause addClause() {
            Clause clause = new Clause();
            if (size >= 0 && size < MOST_CLAUSES) {
                clauses[size] = clause;
                size++;
            }
            return clause;
        }
    }

    /** Reckons SUMS and TESTS from code for a row of values in place of brackets. */
    private static final class Reckoner {
        static final int STOP = 0;
        static final int NUMBER = 1;
        static final int WORD = 2;
        static final int NOT = 3;
        static final int OR = 4;
        static final int AND = 5;
        static final int PLUS = 6;
        static final int MINUS = 7;
        static final int MULTIPLY = 8;
        static final int DIVIDE = 9;
        static final int LEFT_OVER = 10;
        static final int LESS = 11;
        static final int MORE = 12;
        static final int EQUAL = 13;

        /** An operation stands above its argument: a NUMBER, which word, where a jump comes to. */
        static final int ARGUMENT_BITS = 10;
        private static final long FARTHEST = 1_000_000_000L;

        private final int[] values = new int[4 * MOST_BRACKETS];

        /** BROKEN, or what the SUM, the TEST (1: it is so, 0) that starts there comes to; where there is none, as told. */
        int reckon(Text text, int start, int[] words, int without) {
            if (start == NONE || text.code == null) {
                return without;
            }
            int[] code = text.code;
            int top = -1;
            int place = start;
            // Jumps go forward alone, so that no place of the code comes twice.
            for (int n = 0; n < code.length && place >= 0 && place < code.length; n++) {
                int operation = code[place] >> ARGUMENT_BITS;
                int argument = code[place] & (1 << ARGUMENT_BITS) - 1;
                place++;
                if (operation == NUMBER || operation == WORD) {
                    top++;
                    if (top >= values.length || operation == WORD && argument >= words.length) {
                        return BROKEN;
                    }
                    values[top] = operation == NUMBER ? argument : words[argument];
                } else if (top < 0) {
                    return BROKEN;
                } else if (operation == STOP) {
                    return values[top];
                } else if (operation == NOT) {
                    values[top] = 1 - values[top];
                } else if (operation == OR || operation == AND) {
                    if (values[top] == (operation == OR ? 1 : 0)) {
                        place = argument;
                    } else {
                        top--;
                    }
                } else {
                    top--;
                    int value = top < 0 ? BROKEN : ofTwo(operation, values[top], values[top + 1]);
                    if (value == BROKEN) {
                        return BROKEN;
                    }
                    values[top] = value;
                }
            }
            return BROKEN;
        }

        private static int ofTwo(int operation, int left, int right) {
            long value;
            switch (operation) {
                case PLUS:
                    value = (long) left + right;
                    break;
                case MINUS:
                    value = (long) left - right;
                    break;
                case MULTIPLY:
                    value = (long) left * right;
                    break;
                case DIVIDE:
                    return right == 0 ? BROKEN : left / right;
                case LEFT_OVER:
                    return right == 0 ? BROKEN : left % right;
                case LESS:
                    return left < right ? 1 : 0;
                case MORE:
                    return left > right ? 1 : 0;
                default:
                    return left == right ? 1 : 0;
            }
            return value < -FARTHEST || value > FARTHEST ? BROKEN : (int) value;
        }
    }

    /** Reads a TEXT into CLAUSES and code: first all TOKENS, then the grammar over them. */
    private static final class Reader {
        /** A TOKEN is one number: a sign its byte, a word WORDS and its place in LIST, a NUMBER itself and NUMBERS. */
        private static final int WORDS = 256;
        private static final int NUMBERS = 1000;
        private static final int END = 3000;
        /** Behind a FAULT there is no TOKEN any more: whatever is still expected fails, and the first FAULT stays. */
        private static final int DEAD = 3001;

        /** The first eight are the words of LAWS, as Court.fillWords() fills them; a blank behind each. */
        private static final String LIST = "person place length at letter new day mood done latest breaks swaps who name strokes steps bars stroke swap decree pass to times if or and not ";
        private static final int PERSON = WORDS + 1;
        private static final int AT = WORDS + 4;
        private static final int TODAY = WORDS + 7;
        private static final int DONE = WORDS + 9;
        private static final int LATEST = WORDS + 10;
        private static final int BREAKS = WORDS + 11;
        private static final int SWAPS = WORDS + 12;
        private static final int WHO = WORDS + 13;
        private static final int NAME = WORDS + 14;
        private static final int STROKES_RULE = WORDS + 15;
        private static final int STEPS_RULE = WORDS + 16;
        private static final int BARS_RULE = WORDS + 17;
        private static final int STROKE_ORDER = WORDS + 18;
        private static final int SWAP_ORDER = WORDS + 19;
        private static final int DECREE_ORDER = WORDS + 20;
        private static final int PASS_ORDER = WORDS + 21;
        private static final int TO = WORDS + 22;
        private static final int TIMES = WORDS + 23;
        private static final int IF = WORDS + 24;
        private static final int OR = WORDS + 25;
        private static final int AND = WORDS + 26;
        private static final int NOT = WORDS + 27;

        private final int[] tokens = new int[TAPE_ROOM + 1];
        private final int[] starts = new int[TAPE_ROOM + 1];
        private int place = 0;
        private int token = END;
        /** A TOKEN leaves one place of code at most, but for those behind which a SUM ends. */
        private final int[] code = new int[2 * TAPE_ROOM];
        private int codeSize = 0;
        private int parts = 0;
        private int fault = NONE;
        private boolean ofOrders = false;

        int faultPlace() {
            return fault;
        }

        /** Null at a FAULT. */
        Text read(int[] tape, int length, boolean orders) {
            split(tape, Math.min(length, TAPE_ROOM));
            ofOrders = orders;
            place = 0;
            token = tokens[0];
            codeSize = 0;
            parts = 0;
            fault = NONE;
            Text text = new Text();
            readClause(text);
            for (int n = 0; n < TAPE_ROOM && token == ';'; n++) {
                next();
                readClause(text);
            }
            if (token != END) {
                fail();
            }
            if (fault != NONE) {
                return null;
            }
            text.code = Arrays.copyOf(code, codeSize);
            return text;
        }

        // ---- TOKENS ----

        private void split(int[] tape, int length) {
            int size = 0;
            int start = 0;
            for (int n = 0; n < TAPE_ROOM && start < length && start < tape.length; n++) {
                int stop = start + 1;
                if (tape[start] != ' ') {
                    stop = endOfToken(tape, start, length);
                    tokens[size] = tokenOf(tape, start, stop);
                    starts[size] = start;
                    size++;
                }
                start = stop;
            }
            tokens[size] = END;
            starts[size] = length;
        }

        private static int endOfToken(int[] tape, int start, int length) {
            int kind = kindOf(tape[start]);
            int stop = start + 1;
            while (kind != 0 && stop < length && stop < tape.length && kindOf(tape[stop]) == kind) {
                stop++;
            }
            return stop;
        }

        /** Of which rows a byte can be: 1 of letters, 2 of digits, 0 of none. */
        private static int kindOf(int sign) {
            if (sign >= 'a' && sign <= 'z') {
                return 1;
            }
            return sign >= '0' && sign <= '9' ? 2 : 0;
        }

        private static int tokenOf(int[] tape, int start, int stop) {
            int kind = kindOf(tape[start]);
            if (kind == 0) {
                return tape[start];
            }
            if (kind == 1) {
                return WORDS + wordOf(tape, start, stop);
            }
            int number = 0;
            for (int k = start; k < stop && k < tape.length; k++) {
                // A row of digits may be longer than an int: beyond the highest it is enough to stay there.
                number = Math.min(number * 10 + tape[k] - '0', HIGHEST_NUMBER + 1);
            }
            return NUMBERS + number;
        }

        /** Which of the LIST, from 1; 0 for another word. */
        private static int wordOf(int[] tape, int start, int stop) {
            int word = 1;
            int k = start;
            boolean same = true;
            for (int i = 0; i < LIST.length(); i++) {
                char sign = LIST.charAt(i);
                if (sign != ' ') {
                    same = same && k < stop && k < tape.length && tape[k] == sign;
                    k++;
                } else if (same && k == stop) {
                    return word;
                } else {
                    word++;
                    k = start;
                    same = true;
                }
            }
            return 0;
        }

        private void next() {
            if (token != DEAD && token != END && place < TAPE_ROOM) {
                place++;
                token = tokens[place];
            }
        }

        private void fail() {
            if (fault == NONE && place >= 0 && place < starts.length) {
                fault = starts[place];
            }
            token = DEAD;
        }

        private void expect(int due) {
            if (token != due) {
                fail();
            }
            next();
        }

        private int numberWithin(int lowest, int highest) {
            int number = token - NUMBERS;
            if (token >= END || number < lowest || number > highest) {
                fail();
                return lowest;
            }
            next();
            return number;
        }

        // ---- CLAUSES ----

        private void readClause(Text text) {
            if (text.size >= MOST_CLAUSES) {
                fail();
                return;
            }
            Clause clause = text.addClause();
            if (ofOrders) {
                readOrder(clause);
            } else {
                readRule(clause);
            }
            if (token == IF) {
                next();
                clause.test = codeSize;
                readTest(0);
                emit(Reckoner.STOP, 0);
            }
        }

        private void readRule(Clause clause) {
            if (token == BARS_RULE) {
                clause.kind = BARS;
                next();
            } else if (token == STROKES_RULE || token == STEPS_RULE) {
                clause.kind = token == STROKES_RULE ? STROKES : STEPS;
                next();
                clause.first = wholeSum();
            } else {
                fail();
            }
        }

        private void readOrder(Clause clause) {
            if (token == STROKE_ORDER) {
                clause.kind = STROKE;
                next();
                clause.first = wholeSum();
                expect(AT);
                clause.second = wholeSum();
                expect(TO);
                clause.third = wholeSum();
            } else if (token == SWAP_ORDER || token == DECREE_ORDER) {
                clause.kind = token == SWAP_ORDER ? SWAP : DECREE;
                next();
                clause.first = wholeSum();
            } else {
                clause.kind = PASS;
                expect(PASS_ORDER);
            }
            if (token == TIMES) {
                next();
                clause.times = numberWithin(1, MOST_TIMES);
            }
        }

        /** Where its code begins. */
        private int wholeSum() {
            int start = codeSize;
            readSum(0);
            emit(Reckoner.STOP, 0);
            return start;
        }

        // ---- TESTS and SUMS: the depth is that of brackets, which the document bounds ----

        private void readTest(int depth) {
            readBoth(depth);
            for (int n = 0; n < TAPE_ROOM && token == OR; n++) {
                int jump = codeSize;
                emit(Reckoner.OR, 0);
                next();
                readBoth(depth);
                land(jump, Reckoner.OR);
            }
        }

        private void readBoth(int depth) {
            readPlain(depth);
            for (int n = 0; n < TAPE_ROOM && token == AND; n++) {
                int jump = codeSize;
                emit(Reckoner.AND, 0);
                next();
                readPlain(depth);
                land(jump, Reckoner.AND);
            }
        }

        private void readPlain(int depth) {
            boolean turned = false;
            // A loop, as a hundred of them in a row would go too deep.
            for (int n = 0; n < TAPE_ROOM && token == NOT; n++) {
                turned = !turned;
                next();
            }
            if (token != '(') {
                readComparison(depth);
            } else if (opens(depth)) {
                readTest(depth + 1);
                expect(')');
            }
            if (turned) {
                emit(Reckoner.NOT, 0);
            }
        }

        private void readComparison(int depth) {
            readSum(depth);
            int operation = Reckoner.EQUAL;
            if (token == '<') {
                operation = Reckoner.LESS;
            } else if (token == '>') {
                operation = Reckoner.MORE;
            } else if (token != '=') {
                fail();
            }
            next();
            readSum(depth);
            emit(operation, 0);
        }

        private void readSum(int depth) {
            readTerm(depth);
            for (int n = 0; n < TAPE_ROOM && (token == '+' || token == '-'); n++) {
                int operation = token == '+' ? Reckoner.PLUS : Reckoner.MINUS;
                next();
                readTerm(depth);
                emit(operation, 0);
            }
        }

        private void readTerm(int depth) {
            readPart(depth);
            for (int n = 0; n < TAPE_ROOM && (token == '*' || token == '/' || token == '%'); n++) {
                int operation = Reckoner.MULTIPLY;
                if (token != '*') {
                    operation = token == '/' ? Reckoner.DIVIDE : Reckoner.LEFT_OVER;
                }
                next();
                readPart(depth);
                emit(operation, 0);
            }
        }

        private void readPart(int depth) {
            if (token == '[') {
                if (opens(depth)) {
                    readSum(depth + 1);
                    expect(']');
                }
                return;
            }
            parts++;
            int word = ofOrders ? orderWord(token) : lawWord(token);
            if (parts <= MOST_PARTS && token >= NUMBERS) {
                emit(Reckoner.NUMBER, numberWithin(0, HIGHEST_NUMBER));
            } else if (parts <= MOST_PARTS && word != NONE) {
                next();
                boolean counted = ofOrders && word >= WHO_WORDS;
                emit(Reckoner.WORD, counted ? word + numberWithin(0, MOST_PEOPLE - 1) : word);
            } else {
                fail();
            }
        }

        private static int lawWord(int token) {
            return token >= PERSON && token < PERSON + LAW_WORDS ? token - PERSON : NONE;
        }

        /** For "who", "name" the first of seven. */
        private static int orderWord(int token) {
            switch (token) {
                case TODAY:
                    return DAY_WORD;
                case DONE:
                    return DONE_WORD;
                case LATEST:
                    return LATEST_WORD;
                case BREAKS:
                    return BREAKS_WORD;
                case SWAPS:
                    return SWAPS_WORD;
                case WHO:
                    return WHO_WORDS;
                case NAME:
                    return NAME_WORDS;
                default:
                    return NONE;
            }
        }

        private boolean opens(int depth) {
            if (depth >= MOST_BRACKETS) {
                fail();
                return false;
            }
            next();
            return true;
        }

        // ---- code ----

        private void emit(int operation, int argument) {
            if (codeSize < code.length) {
                code[codeSize] = operation << Reckoner.ARGUMENT_BITS | argument;
                codeSize++;
            }
        }

        /** The jump that stands there comes to what is emitted next. */
        private void land(int jump, int operation) {
            if (jump >= 0 && jump < codeSize) {
                code[jump] = operation << Reckoner.ARGUMENT_BITS | codeSize;
            }
        }
    }

    /** Asks a LAW (null: none) of a quay, the one that stands or one on paper. */
    private static final class Court {
        private static final int DEAREST = 99;

        final Reckoner reckoner = new Reckoner();
        private final int[] words = new int[LAW_WORDS];

        int strokeCost(Quay quay, Text law, int person, int k, int letter) {
            fillWords(quay, person, k, Names.letterOf(quay.nameOf(person), k), letter);
            return lastTold(law, STROKES);
        }

        int stepCost(Quay quay, Text law, int person) {
            fillWords(quay, person, NONE, NONE, NONE);
            return lastTold(law, STEPS);
        }

        boolean isBarred(Quay quay, Text law, int person) {
            if (law == null) {
                return false;
            }
            fillWords(quay, person, NONE, NONE, NONE);
            for (int i = 0; i < law.size && i < MOST_CLAUSES; i++) {
                Clause clause = law.clauses[i];
                if (clause != null && clause.kind == BARS && reckoner.reckon(law, clause.test, words, 1) == 1) {
                    return true;
                }
            }
            return false;
        }

        private void fillWords(Quay quay, int person, int k, int letter, int becomes) {
            words[0] = person;
            words[1] = quay.has(person) ? quay.places[person] : NONE;
            words[2] = Names.lengthOf(quay.nameOf(person));
            words[3] = k;
            words[4] = letter;
            words[5] = becomes;
            words[6] = quay.terms[DAY];
            words[7] = quay.terms[MOOD];
        }

        private int lastTold(Text law, int kind) {
            if (law == null) {
                return 1;
            }
            for (int i = Math.min(law.size, MOST_CLAUSES) - 1; i >= 0; i--) {
                Clause clause = law.clauses[i];
                if (clause != null && clause.kind == kind && reckoner.reckon(law, clause.test, words, 1) == 1) {
                    int told = reckoner.reckon(law, clause.first, words, BROKEN);
                    if (told != BROKEN) {
                        return Math.max(0, Math.min(DEAREST, told));
                    }
                }
            }
            return 1;
        }
    }

    /** Goes through all 120 ALPHABETS, rising, for those by which some pairs of LETTERS stand as demanded. */
    private static final class Alphabets {
        private static final int[] ORDERS_OF_REST = {24, 6, 2, 1, 1};

        private final int[] order = {-1, 0, 0, 0, 0, 0};
        private final int[] demands = new int[MOST_HEARD];
        private int size = 0;
        private final int[] differences = new int[MOST_PEOPLE * MOST_PEOPLE];
        private final int[] tallies = new int[MOST_PEOPLE * MOST_PEOPLE];

        void clear() {
            size = 0;
        }

        void demand(int difference) {
            if (size >= 0 && size < demands.length) {
                demands[size] = difference;
                size++;
            }
        }

        /** The i-th ALPHABET that meets all demands, or how many do. */
        int found(int i) {
            int met = 0;
            for (int index = 0; index < ALPHABETS; index++) {
                int number = take(index);
                if (meetsAll()) {
                    if (met == i) {
                        return number;
                    }
                    met++;
                }
            }
            return i == NONE ? met : NONE;
        }

        /** Fills the order of the index-th ALPHABET; tells its number. */
        private int take(int index) {
            int number = 0;
            int used = 0;
            int rest = index;
            for (int k = 0; k < LETTERS; k++) {
                int skip = rest / ORDERS_OF_REST[k];
                rest %= ORDERS_OF_REST[k];
                int letter = 1;
                while (letter < LETTERS && (skip > 0 || (used >> letter & 1) == 1)) {
                    skip -= (used >> letter & 1) == 1 ? 0 : 1;
                    letter++;
                }
                used |= 1 << letter;
                order[letter] = k;
                number = number * 10 + letter;
            }
            return number;
        }

        private boolean meetsAll() {
            for (int i = 0; i < size && i < demands.length; i++) {
                if (!Names.isMet(demands[i], order)) {
                    return false;
                }
            }
            return true;
        }

        /** Which two to ASK for (what 0), how many of the ALPHABETS are left at most (1). */
        int bestTwo(Quay quay, int what) {
            int fitting = tally(quay);
            int least = fitting + 1;
            int two = NONE;
            for (int one = 0; one < quay.people && one < MOST_PEOPLE; one++) {
                for (int other = one + 1; other < quay.people && other < MOST_PEOPLE; other++) {
                    int pair = MOST_PEOPLE * one + other;
                    int left = Math.max(tallies[pair], fitting - tallies[pair]);
                    if (differences[pair] != 0 && left < least) {
                        least = left;
                        two = 10 * one + other;
                    }
                }
            }
            if (fitting == 0 || two == NONE) {
                return NONE;
            }
            return what == 0 ? two : least;
        }

        /** For each pair by how many of FITTING ones the lower one is AHEAD; tells how many FIT. */
        private int tally(Quay quay) {
            for (int pair = 0; pair < tallies.length; pair++) {
                tallies[pair] = 0;
                int one = pair / MOST_PEOPLE;
                int other = pair % MOST_PEOPLE;
                boolean asked = one < other && quay.has(other);
                differences[pair] = asked ? Names.differ(quay.nameOf(one), quay.nameOf(other)) : 0;
            }
            int fitting = 0;
            for (int index = 0; index < ALPHABETS; index++) {
                take(index);
                if (meetsAll()) {
                    fitting++;
                    for (int pair = 0; pair < tallies.length; pair++) {
                        if (differences[pair] != 0 && Names.isMet(differences[pair], order)) {
                            tallies[pair]++;
                        }
                    }
                }
            }
            return fitting;
        }
    }

    /** Finds MENDED: all 780 NAMES have a rank as they are AHEAD, and ranks may not fall along the ROW. */
    private static final class Mender {
        private static final int RANKS = 780;
        private static final int COLUMNS = RANKS + 1;
        /** Far above what all STROKES can cost together. */
        private static final int BEYOND = 1_000_000;
        /** How many ranks a NAME and all that it is the beginning of take, by its length. */
        private static final int[] SPANS = {156, 31, 6, 1};
        private static final int PRICES = LONGEST_NAME * (LETTERS + 1);

        /** By PLACE and rank: the least for those from the PLACE on, none of them below the rank. */
        private final int[] least = new int[(MOST_PEOPLE + 1) * COLUMNS];
        /** By PLACE, which LETTER, and what it becomes (0: none there). */
        private final int[] prices = new int[MOST_PEOPLE * PRICES];

        /** NONE, if it can't be. */
        int leastCost(Quay quay, Text law, Court court) {
            for (int place = 0; place < quay.people; place++) {
                setPrices(quay, law, court, place);
            }
            for (int place = 0; place <= quay.people && place <= MOST_PEOPLE; place++) {
                least[place * COLUMNS + RANKS] = place == quay.people ? 0 : BEYOND;
            }
            for (int rank = RANKS - 1; rank >= 0; rank--) {
                setLeast(quay, rank);
            }
            int cost = least[0];
            return cost < BEYOND ? cost : NONE;
        }

        private void setPrices(Quay quay, Text law, Court court, int place) {
            if (!quay.has(place)) {
                return;
            }
            int person = quay.row[place];
            boolean barred = court.isBarred(quay, law, person);
            for (int k = 0; k < LONGEST_NAME; k++) {
                int old = Names.letterOf(quay.nameOf(person), k);
                int base = place * PRICES + k * (LETTERS + 1);
                for (int letter = 0; letter <= LETTERS; letter++) {
                    int price = BEYOND;
                    if (letter == old) {
                        price = 0;
                    } else if (letter != 0 && old != 0 && !barred) {
                        price = court.strokeCost(quay, law, person, k, letter);
                    }
                    prices[base + letter] = price;
                }
            }
        }

        private void setLeast(Quay quay, int rank) {
            int name = nameOfRank(rank, quay.letters);
            if (quay.people <= MOST_PEOPLE) {
                least[quay.people * COLUMNS + rank] = 0;
            }
            for (int place = Math.min(quay.people, MOST_PEOPLE) - 1; place >= 0; place--) {
                int here = place * COLUMNS + rank;
                int cost = price(place, name) + least[here + COLUMNS];
                least[here] = Math.min(cost, least[here + 1]);
            }
        }

        /** Of a NAME with zeros behind, so that one of another length comes out as beyond all. */
        private int price(int place, int name) {
            int base = place * PRICES;
            return prices[base + name / 1000]
                + prices[base + LETTERS + 1 + name / 100 % 10]
                + prices[base + 2 * (LETTERS + 1) + name / 10 % 10]
                + prices[base + 3 * (LETTERS + 1) + name % 10];
        }

        /** With zeros behind. */
        private static int nameOfRank(int rank, int[] letters) {
            int name = 0;
            int rest = rank;
            for (int k = 0; k < LONGEST_NAME; k++) {
                int spot = rest / SPANS[k];
                if (spot < 0 || spot >= letters.length) {
                    return name;
                }
                name += letters[spot] * TENS[k];
                rest %= SPANS[k];
                if (rest == 0) {
                    return name;
                }
                rest--;
            }
            return name;
        }

        /** Behind leastCost() that was not NONE: at each PLACE the first NAME by which the least can still be kept. */
        int nameFor(Quay quay, int wanted) {
            int rank = 0;
            for (int place = 0; place < quay.people && place < MOST_PEOPLE; place++) {
                int due = least[place * COLUMNS + rank];
                int name = nameOfRank(rank, quay.letters);
                while (rank < RANKS - 1 && price(place, name) + least[(place + 1) * COLUMNS + rank] != due) {
                    rank++;
                    name = nameOfRank(rank, quay.letters);
                }
                if (place == wanted) {
                    return withoutZeros(name);
                }
            }
            return NONE;
        }

        private static int withoutZeros(int name) {
            int bare = name;
            for (int k = 1; k < LONGEST_NAME && bare % 10 == 0; k++) {
                bare /= 10;
            }
            return bare;
        }
    }

    /** Finds CLEAREST. */
    private static final class Clearing {
        /** What each LETTER has come to behind so many PEOPLE. */
        private final int[] told = new int[(MOST_PEOPLE + 1) * (LETTERS + 1)];
        private final int[] trial = new int[MOST_PEOPLE];
        final int[] best = new int[MOST_PEOPLE];
        int most = NONE;

        void seek(Quay quay) {
            most = NONE;
            for (int letter = 1; letter <= LETTERS; letter++) {
                told[letter] = letter;
            }
            tryFrom(quay, 0, 0);
        }

        private void tryFrom(Quay quay, int depth, int used) {
            // LETTERS that have come to the same never part again: there is no more to win than what is left.
            if (depth > MOST_PEOPLE || unlike(depth) <= most) {
                return;
            }
            if (depth >= quay.people) {
                keepIfClearer(depth);
                return;
            }
            for (int person = 0; person < quay.people && depth < MOST_PEOPLE; person++) {
                if ((used >> person & 1) == 0) {
                    trial[depth] = person;
                    tellOn(quay, depth, person);
                    tryFrom(quay, depth + 1, used | 1 << person);
                }
            }
        }

        private void tellOn(Quay quay, int depth, int person) {
            int base = depth * (LETTERS + 1);
            for (int letter = 1; letter <= LETTERS; letter++) {
                told[base + LETTERS + 1 + letter] = quay.said(person, told[base + letter]);
            }
        }

        private int unlike(int depth) {
            int bits = 0;
            for (int letter = 1; letter <= LETTERS; letter++) {
                bits |= 1 << told[depth * (LETTERS + 1) + letter];
            }
            return Integer.bitCount(bits);
        }

        private void keepIfClearer(int depth) {
            int same = 0;
            for (int letter = 1; letter <= LETTERS; letter++) {
                if (told[depth * (LETTERS + 1) + letter] == letter) {
                    same++;
                }
            }
            if (same > most) {
                most = same;
                System.arraycopy(trial, 0, best, 0, MOST_PEOPLE);
            }
        }
    }
}
