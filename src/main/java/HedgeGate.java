import java.util.Arrays;

/** A gate in a hedge, passed by questions: see README.md and the project's document. */
public final class HedgeGate {
    public static final int NONE = -1000000, BAD = -1000001, STATE = -1000002, FULL = -1000003;

    private static final int FINDINGS = -1000010;
    private static final int FAULTS = -1000100;
    private static final int NULL = 1, PLACE = 2, KIND = 3, SIZE = 4, STORE = 5;

    private static final int MOST_ROWS = 8, MOST_ITEMS = 40;
    private static final int MOST_BYTES = 120, MOST_FIGURES = 3;
    private static final int MOST_WORDS = 8, MOST_TRAVELLERS = 5, MOST_CASES = 4;
    private static final int MOST_MEMORY = 24, MOST_ACTS = 24, MOST_IMAGES = 2, MOST_TRACE = 16;
    private static final int MOST_WAIT = 24, LAST_HOUR = 999, FORESIGHT = 48;
    private static final int FOLLOWED = 8, NOTHING_ASKED = -1, NOBODY = -1;

    private static final int PLAIN = 1, IF = 2, ECHO = 3, FOREIGN = 4, NO = 5, KINDS = 6;

    /** The KIND that each KIND is, too; -1 where there is none above it. */
    private static final int[] ABOVE = {-1, 0, 1, 1, 0, 4};
    /** The BODY told for each KIND; 0 where none is told. */
    private static final int[] SIZE_BODIES = {10, 11, 12, 0, 13, 14};
    private static final int[] MARK_BODIES = {20, 21, 24, 22, 23, 0};

    private final Row[] rows = new Row[MOST_ROWS];
    private final Hedge now = new Hedge();
    private final Hedge draft = new Hedge();
    private final Hedge[] images = new Hedge[MOST_IMAGES];
    private final Tape tape = new Tape();
    private final Acts acts = new Acts();
    private final Plan planner = new Plan();
    private final Talk talker = new Talk();
    private final Ways ways = new Ways();
    private final Asking asking = new Asking();
    private int finding = 0;

    public HedgeGate() {
        for (int i = 0; i < MOST_ROWS; i++) {
            rows[i] = new Row();
        }
        for (int i = 0; i < MOST_IMAGES; i++) {
            images[i] = new Hedge();
        }
    }

    // ---- rows

    public int row(int row, int lane, int n) {
        if (!isRowNumber(row) || lane < Row.BYTES || lane > Row.INTS || n > MOST_ITEMS) {
            return BAD;
        }
        if (n < 0) {
            return found(SIZE);
        }
        rows[row].make(lane, n);
        return fine(n);
    }

    public int set(int row, int i, int v) {
        if (!isRowNumber(row)) {
            return BAD;
        }
        Row r = rows[row];
        if (!r.here) {
            return found(NULL);
        }
        if (i < 0 || i >= r.length) {
            return found(PLACE);
        }
        r.items[i] = r.cut(v);
        return fine(r.items[i]);
    }

    public int copy(int a, int i, int b, int j, int n) {
        if (!isRowNumber(a) || !isRowNumber(b)) {
            return BAD;
        }
        Row from = rows[a];
        Row to = rows[b];
        if (!from.here || !to.here) {
            return found(NULL);
        }
        if (from.lane != to.lane) {
            return found(STORE);
        }
        if (!from.spans(i, n) || !to.spans(j, n)) {
            return found(PLACE);
        }
        System.arraycopy(from.items, i, to.items, j, n);
        return fine(n);
    }

    public int drop(int row) {
        if (!isRowNumber(row)) {
            return BAD;
        }
        Row r = rows[row];
        if (!r.here) {
            return found(NULL);
        }
        r.here = false;
        return fine(r.length);
    }

    private static boolean isRowNumber(int row) {
        return row >= 0 && row < MOST_ROWS;
    }

    private int found(int number) {
        finding = number;
        return FINDINGS - number;
    }

    private int fine(int answer) {
        finding = 0;
        return answer;
    }

    // ---- hedges, acts

    public int feed(int letter) {
        if (letter < 0 || letter > 255) {
            return BAD;
        }
        return tape.add(letter) ? tape.length : FULL;
    }

    public int hedge() {
        boolean read = tape.readInto(draft);
        tape.length = 0;
        if (!read) {
            return FAULTS - tape.place;
        }
        now.become(draft);
        acts.forget();
        return now.travellers;
    }

    public int fault() {
        return tape.fault;
    }

    public int asks(int traveller, int word) {
        if (!now.isTraveller(traveller) || !now.isWord(word)) {
            return BAD;
        }
        if (now.hasPassed(traveller) || !holds(now.openTo(traveller), word)) {
            return STATE;
        }
        acts.keep(now, traveller, word);
        now.letAsk(traveller, word);
        return now.hour;
    }

    public int follows(int traveller) {
        if (!now.isTraveller(traveller)) {
            return BAD;
        }
        if (now.hasPassed(traveller) || now.mayFollow <= 0) {
            return STATE;
        }
        acts.keep(now, traveller, FOLLOWED);
        now.letFollow(traveller);
        return now.mayFollow;
    }

    public int waits(int n) {
        if (!now.stands) {
            return STATE;
        }
        if (n < 1 || n > MOST_WAIT) {
            return BAD;
        }
        if (now.hour + n > LAST_HOUR) {
            return FULL;
        }
        acts.keep(now, NOBODY, FOLLOWED);
        now.hour += n;
        return now.hour;
    }

    public int undo() {
        if (acts.kept <= 0) {
            return STATE;
        }
        acts.takeBack(now);
        return acts.kept;
    }

    public int word(int word, int what) {
        if (!now.isWord(word)) {
            return BAD;
        }
        switch (what) {
            case 0: return now.cases[word];
            case 1: return now.askedAt[word];
            case 2: return now.askedTimes[word];
            case 3: return holds(now.openNow(), word) ? 1 : 0;
            default: return BAD;
        }
    }

    public int traveller(int traveller, int what) {
        if (!now.isTraveller(traveller)) {
            return BAD;
        }
        switch (what) {
            case 0: return now.sets[traveller];
            case 1: return now.hasPassed(traveller) ? 1 : 0;
            case 2: return now.passedBy[traveller];
            default: return BAD;
        }
    }

    // ---- foretold

    public int can(int traveller) {
        if (!now.isTraveller(traveller)) {
            return BAD;
        }
        return now.hasPassed(traveller) ? STATE : now.openTo(traveller);
    }

    public int soon(int traveller) {
        if (!now.isTraveller(traveller)) {
            return BAD;
        }
        if (now.hasPassed(traveller)) {
            return STATE;
        }
        for (int later = 0; later <= FORESIGHT; later++) {
            int open = now.open(now.askedAt, now.hour + later, now.lastCase);
            if ((open & now.sets[traveller]) != 0) {
                return now.hour + later;
            }
        }
        return NONE;
    }

    public int plan(int k) {
        if (!now.stands) {
            return STATE;
        }
        if (k < -1 || k >= MOST_TRAVELLERS) {
            return BAD;
        }
        planner.make(now);
        return k < 0 ? planner.hourBehind() : planner.stepAt(k);
    }

    public int talk(int k) {
        if (!now.stands) {
            return STATE;
        }
        if (k < -1 || k >= MOST_WORDS) {
            return BAD;
        }
        talker.make(now);
        return k < 0 ? talker.length : talker.wordAt(k);
    }

    public int family(int set, int what) {
        if (!now.stands) {
            return STATE;
        }
        if (set < 0 || set >= 1 << now.travellers || what < 0 || what > 1) {
            return BAD;
        }
        int fewest = now.fewestWordsFor(set);
        return what == 0 ? Integer.bitCount(fewest) : fewest;
    }

    public int ban(int what) {
        if (!now.stands) {
            return STATE;
        }
        if (what < 0 || what > 1) {
            return BAD;
        }
        int best = NONE;
        int fewest = NONE;
        for (int w = 0; w < now.words; w++) {
            int able = now.ableWithout(w);
            if (best == NONE || able < fewest) {
                best = w;
                fewest = able;
            }
        }
        return what == 0 ? best : fewest;
    }

    public int who(int words, int what) {
        if (!now.stands) {
            return STATE;
        }
        if (words < 0 || words >= 1 << now.words || what < 0 || what > 1) {
            return BAD;
        }
        int companies = now.companiesFor(words);
        if (what == 0) {
            return Integer.bitCount(companies);
        }
        return leastOf(companies);
    }

    public int goneBy(int row, int i, int n) {
        if (!now.stands) {
            return STATE;
        }
        if (!isRowNumber(row) || n < 0 || n > MOST_TRAVELLERS) {
            return BAD;
        }
        Row r = rows[row];
        if (!r.here) {
            return found(NULL);
        }
        if (!r.spans(i, n)) {
            return found(PLACE);
        }
        if (!ways.take(now, r, i, n)) {
            return BAD;
        }
        return fine(ways.tally(now));
    }

    public int image(int k) {
        if (k < 0 || k >= MOST_IMAGES) {
            return BAD;
        }
        if (!now.stands) {
            return STATE;
        }
        images[k].become(now);
        return 1;
    }

    public int restore(int k) {
        if (k < 0 || k >= MOST_IMAGES) {
            return BAD;
        }
        if (!images[k].stands) {
            return STATE;
        }
        now.become(images[k]);
        acts.forget();
        return 1;
    }

    // ---- asked

    public int kind(int word) {
        return now.isWord(word) ? now.kinds[word] : BAD;
    }

    public int as(int word, int kind) {
        if (!now.isWord(word) || kind < 0 || kind >= KINDS) {
            return BAD;
        }
        return isKindOf(now.kinds[word], kind) ? fine(word) : found(KIND);
    }

    public int ask(int word, int what) {
        if (!now.isWord(word) || what < 0 || what > 1) {
            return BAD;
        }
        return asking.answer(now, word, what == 0 ? SIZE_BODIES : MARK_BODIES);
    }

    public int trace(int i) {
        return asking.traceAt(i);
    }

    public int count(int what) {
        switch (what) {
            case 0: return rowsHere();
            case 1: return now.words;
            case 2: return now.travellers;
            case 3: return now.hour;
            case 4: return now.lastCase;
            case 5: return now.mayFollow;
            case 6: return Integer.bitCount(now.passed());
            case 7: return acts.kept;
            case 8: return tape.length;
            default: return BAD;
        }
    }

    public int status() {
        return finding;
    }

    private int rowsHere() {
        int here = 0;
        for (int i = 0; i < MOST_ROWS; i++) {
            if (rows[i].here) {
                here++;
            }
        }
        return here;
    }

    private static int leastOf(int set) {
        for (int member = 0; member < 32; member++) {
            if (holds(set, member)) {
                return member;
            }
        }
        return NONE;
    }

    private static boolean holds(int set, int member) {
        return (set >>> member & 1) == 1;
    }

    private static int kindAbove(int kind) {
        return kind < 0 || kind >= KINDS ? -1 : ABOVE[kind];
    }

    private static boolean isKindOf(int kind, int wanted) {
        int k = kind;
        for (int up = 0; up < KINDS && k >= 0; up++) {
            if (k == wanted) {
                return true;
            }
            k = kindAbove(k);
        }
        return false;
    }

    /** Keeps its place for items while it is missing, so that no call makes a new one. */
    private static final class Row {
        static final int BYTES = 0, SHORTS = 1, INTS = 2;

        final int[] items = new int[MOST_ITEMS];
        boolean here = false;
        int lane = BYTES;
        int length = 0;

        void make(int newLane, int n) {
            Arrays.fill(items, 0);
            here = true;
            lane = newLane;
            length = n;
        }

        int cut(int v) {
            if (lane == BYTES) {
                return (byte) v;
            }
            return lane == SHORTS ? (short) v : v;
        }

        boolean spans(int i, int n) {
            return i >= 0 && n >= 0 && i <= length && n <= length - i;
        }
    }

    /** The bytes that were fed, and their reading; the latest FAULT stays behind a reading. */
    private static final class Tape {
        private final int[] bytes = new int[MOST_BYTES];
        private int at = 0;
        private boolean sound = true;
        int length = 0;
        int fault = 0;
        int place = 0;

        boolean add(int letter) {
            if (length < 0 || length >= MOST_BYTES) {
                return false;
            }
            bytes[length] = letter;
            length++;
            return true;
        }

        boolean readInto(Hedge hedge) {
            at = 0;
            sound = true;
            hedge.begin();
            readLaw(hedge);
            readWords(hedge);
            readTravellers(hedge);
            return sound;
        }

        private void readLaw(Hedge hedge) {
            readSign('h');
            hedge.memory = readNumber(1, MOST_MEMORY);
            for (int c = 0; c < MOST_CASES; c++) {
                readSign(',');
                hedge.behind[c] = readNumber(0, (1 << MOST_CASES) - 1);
            }
            readSign(';');
        }

        private void readWords(Hedge hedge) {
            for (int n = 0; n <= MOST_WORDS && sound; n++) {
                int kind = kindOfLetter(look());
                if (kind == 0) {
                    return;
                }
                if (n == MOST_WORDS) {
                    fail(3);
                    return;
                }
                at++;
                int wordCase = readNumber(0, MOST_CASES - 1);
                readSign(';');
                hedge.addWord(kind, wordCase);
            }
        }

        private void readTravellers(Hedge hedge) {
            for (int n = 0; n <= MOST_TRAVELLERS && sound && at < length; n++) {
                if (n == MOST_TRAVELLERS && look() == 't') {
                    fail(3);
                    return;
                }
                readSign('t');
                int words = readNumber(1, (1 << hedge.words) - 1);
                readSign(';');
                hedge.addTraveller(words);
            }
        }

        private void readSign(int sign) {
            if (!sound) {
                return;
            }
            if (look() == sign) {
                at++;
            } else {
                fail(1);
            }
        }

        /** Answers 0 when the reading has failed: nothing of that reading is used then. */
        private int readNumber(int least, int most) {
            if (!sound) {
                return 0;
            }
            int figures = 0;
            int value = 0;
            for (int i = at; i < length && isFigure(bytes[i]); i++) {
                figures++;
                if (figures <= MOST_FIGURES) {
                    value = 10 * value + bytes[i] - '0';
                }
            }
            if (figures == 0 || figures > MOST_FIGURES) {
                fail(1);
                return 0;
            }
            if (value < least || value > most) {
                fail(2);
                return 0;
            }
            at += figures;
            return value;
        }

        private int look() {
            return at >= 0 && at < length && at < MOST_BYTES ? bytes[at] : -1;
        }

        private void fail(int number) {
            sound = false;
            fault = number;
            place = at;
        }

        private static boolean isFigure(int letter) {
            return letter >= '0' && letter <= '9';
        }

        private static int kindOfLetter(int letter) {
            switch (letter) {
                case 'p': return PLAIN;
                case 'i': return IF;
                case 'e': return ECHO;
                case 'f': return FOREIGN;
                case 'n': return NO;
                default: return 0;
            }
        }
    }

    /** All that an IMAGE keeps: the law, WORDS, TRAVELLERS, and how things stand. */
    private static final class Hedge {
        boolean stands = false;
        int memory = 1;
        final int[] behind = new int[MOST_CASES];
        int words = 0;
        final int[] kinds = new int[MOST_WORDS];
        final int[] cases = new int[MOST_WORDS];
        final int[] askedAt = new int[MOST_WORDS];
        final int[] askedTimes = new int[MOST_WORDS];
        int travellers = 0;
        final int[] sets = new int[MOST_TRAVELLERS];
        final int[] passedBy = new int[MOST_TRAVELLERS];
        int hour = 0;
        int lastCase = NOTHING_ASKED;
        int mayFollow = 0;

        void begin() {
            stands = true;
            words = 0;
            travellers = 0;
            hour = 0;
            lastCase = NOTHING_ASKED;
            mayFollow = 0;
        }

        void addWord(int kind, int wordCase) {
            if (words < 0 || words >= MOST_WORDS) {
                return;
            }
            kinds[words] = kind;
            cases[words] = wordCase;
            askedAt[words] = NONE;
            askedTimes[words] = 0;
            words++;
        }

        void addTraveller(int set) {
            if (travellers < 0 || travellers >= MOST_TRAVELLERS) {
                return;
            }
            sets[travellers] = set;
            passedBy[travellers] = NONE;
            travellers++;
        }

        void become(Hedge other) {
            stands = other.stands;
            memory = other.memory;
            words = other.words;
            travellers = other.travellers;
            hour = other.hour;
            lastCase = other.lastCase;
            mayFollow = other.mayFollow;
            System.arraycopy(other.behind, 0, behind, 0, MOST_CASES);
            System.arraycopy(other.kinds, 0, kinds, 0, MOST_WORDS);
            System.arraycopy(other.cases, 0, cases, 0, MOST_WORDS);
            System.arraycopy(other.askedAt, 0, askedAt, 0, MOST_WORDS);
            System.arraycopy(other.askedTimes, 0, askedTimes, 0, MOST_WORDS);
            System.arraycopy(other.sets, 0, sets, 0, MOST_TRAVELLERS);
            System.arraycopy(other.passedBy, 0, passedBy, 0, MOST_TRAVELLERS);
        }

        boolean isWord(int word) {
            return word >= 0 && word < words && word < MOST_WORDS;
        }

        boolean isTraveller(int traveller) {
            return traveller >= 0 && traveller < travellers && traveller < MOST_TRAVELLERS;
        }

        boolean hasPassed(int traveller) {
            return isTraveller(traveller) && passedBy[traveller] != NONE;
        }

        int passed() {
            int set = 0;
            for (int t = 0; t < travellers; t++) {
                if (hasPassed(t)) {
                    set |= 1 << t;
                }
            }
            return set;
        }

        /** Whether a WORD, asked in an hour (NONE: never), is WORN in a later one. */
        boolean isWorn(int word, int asked, int inHour) {
            return asked != NONE && inHour - asked < memory
                && isWord(word) && !isKindOf(kinds[word], FOREIGN);
        }

        boolean comesBehind(int word, int aheadCase) {
            if (!isWord(word)) {
                return false;
            }
            if (aheadCase < 0 || aheadCase >= MOST_CASES) {
                return true;
            }
            if (kinds[word] == ECHO && cases[word] == aheadCase) {
                return false;
            }
            return holds(behind[aheadCase], cases[word]);
        }

        /** The WORDS that MAY be ASKED in an hour; askings tells when each was asked last. */
        int open(int[] askings, int inHour, int aheadCase) {
            int set = 0;
            for (int w = 0; w < words && w < askings.length; w++) {
                if (comesBehind(w, aheadCase) && !isWorn(w, askings[w], inHour)) {
                    set |= 1 << w;
                }
            }
            return set;
        }

        int openNow() {
            return open(askedAt, hour, lastCase);
        }

        int openTo(int traveller) {
            return isTraveller(traveller) ? openNow() & sets[traveller] : 0;
        }

        int hoursFor(int word) {
            return isWord(word) && kinds[word] == NO ? 2 : 1;
        }

        int followersBy(int word) {
            return isWord(word) && kinds[word] == IF ? 1 : 0;
        }

        void letAsk(int traveller, int word) {
            if (!isTraveller(traveller) || !isWord(word)) {
                return;
            }
            passedBy[traveller] = word;
            askedAt[word] = hour;
            askedTimes[word]++;
            lastCase = cases[word];
            mayFollow += followersBy(word);
            hour += hoursFor(word);
        }

        void letFollow(int traveller) {
            if (!isTraveller(traveller)) {
                return;
            }
            passedBy[traveller] = FOLLOWED;
            mayFollow--;
            hour++;
        }

        int fewestWordsFor(int family) {
            int best = (1 << words) - 1;
            for (int chosen = 0; chosen < 1 << words; chosen++) {
                if (Integer.bitCount(chosen) < Integer.bitCount(best) && serves(chosen, family)) {
                    best = chosen;
                }
            }
            return best;
        }

        private boolean serves(int chosen, int family) {
            for (int t = 0; t < travellers; t++) {
                if (holds(family, t) && (sets[t] & chosen) == 0) {
                    return false;
                }
            }
            return true;
        }

        int ableWithout(int banned) {
            int open = openNow() & ~(1 << banned);
            int able = 0;
            for (int t = 0; t < travellers; t++) {
                if (!hasPassed(t) && (sets[t] & open) != 0) {
                    able++;
                }
            }
            return able;
        }

        /** A set of sets: bit s stands for the set s of TRAVELLERS, of which there are 32. */
        int companiesFor(int askedWords) {
            int companies = 1;
            for (int w = 0; w < words; w++) {
                if (holds(askedWords, w)) {
                    companies = withOneMore(companies, w);
                }
            }
            return companies;
        }

        private int withOneMore(int companies, int word) {
            int larger = 0;
            for (int s = 0; s < 1 << travellers; s++) {
                for (int t = 0; t < travellers; t++) {
                    if (holds(companies, s) && !holds(s, t) && holds(sets[t], word)) {
                        larger |= 1 << (s | 1 << t);
                    }
                }
            }
            return larger;
        }
    }

    /** What one ACT changed, as it was ahead of it. */
    private static final class Act {
        int traveller, word, hour, lastCase, mayFollow, askedAt;
    }

    private static final class Acts {
        private final Act[] ring = new Act[MOST_ACTS];
        private int next = 0;
        int kept = 0;

        Acts() {
            for (int i = 0; i < MOST_ACTS; i++) {
                ring[i] = new Act();
            }
        }

        void forget() {
            kept = 0;
        }

        /** NOBODY stands for a traveller, FOLLOWED for a word, where there is none. */
        void keep(Hedge hedge, int traveller, int word) {
            Act act = ring[next];
            act.traveller = traveller;
            act.word = word;
            act.hour = hedge.hour;
            act.lastCase = hedge.lastCase;
            act.mayFollow = hedge.mayFollow;
            act.askedAt = hedge.isWord(word) ? hedge.askedAt[word] : NONE;
            next = next + 1 < MOST_ACTS ? next + 1 : 0;
            kept = Math.min(kept + 1, MOST_ACTS);
        }

        void takeBack(Hedge hedge) {
            next = next > 0 ? next - 1 : MOST_ACTS - 1;
            kept--;
            Act act = ring[next];
            hedge.hour = act.hour;
            hedge.lastCase = act.lastCase;
            hedge.mayFollow = act.mayFollow;
            if (hedge.isTraveller(act.traveller)) {
                hedge.passedBy[act.traveller] = NONE;
            }
            if (hedge.isWord(act.word)) {
                hedge.askedAt[act.word] = act.askedAt;
                hedge.askedTimes[act.word]--;
            }
        }
    }

    /** PLAN: tries steps in the document's order, so the first of the best is met first. */
    private static final class Plan {
        private static final int NO_PLAN = 1000000;
        private static final int PLACES = 1024;
        /** An odd number without a pattern: by it keys that are near come to places apart. */
        private static final long SPREAD = 7046029254386353131L;

        private final int[] askedAt = new int[MOST_WORDS];
        private final int[] steps = new int[MOST_TRAVELLERS];
        private final int[] best = new int[MOST_TRAVELLERS];
        private final long[] seen = new long[PLACES];
        private long made = 0;
        private int start = 0;
        private int bestHour = NO_PLAN;
        private int length = 0;

        void make(Hedge hedge) {
            System.arraycopy(hedge.askedAt, 0, askedAt, 0, MOST_WORDS);
            made++;
            start = hedge.hour;
            bestHour = NO_PLAN;
            length = 0;
            seek(this, hedge, 0, hedge.passed(), hedge.hour, hedge.lastCase, hedge.mayFollow);
        }

        int hourBehind() {
            return bestHour == NO_PLAN ? NONE : bestHour;
        }

        int stepAt(int k) {
            return k >= 0 && k < length && k < MOST_TRAVELLERS ? best[k] : NONE;
        }

        private static void seek(Plan plan, Hedge hedge, int depth, int passed, int hour,
                int lastCase, int follow) {
            int left = hedge.travellers - Integer.bitCount(passed);
            // each who is left takes an hour at least
            if (hour + left >= plan.bestHour) {
                return;
            }
            if (left == 0 || depth >= MOST_TRAVELLERS) {
                plan.keepBest(depth, hour);
                return;
            }
            if (plan.wasHere(hedge, passed, hour, lastCase, follow)) {
                return;
            }
            int open = hedge.open(plan.askedAt, hour, lastCase);
            for (int t = 0; t < hedge.travellers; t++) {
                if (holds(passed, t) || hasTwinAhead(hedge, passed, t)) {
                    continue;
                }
                int passedThen = passed | 1 << t;
                for (int w = 0; w < hedge.words; w++) {
                    if (!holds(open & hedge.sets[t], w)) {
                        continue;
                    }
                    int askedBefore = plan.askedAt[w];
                    plan.askedAt[w] = hour;
                    plan.steps[depth] = 16 * t + w;
                    seek(plan, hedge, depth + 1, passedThen, hour + hedge.hoursFor(w),
                        hedge.cases[w], follow + hedge.followersBy(w));
                    plan.askedAt[w] = askedBefore;
                }
                if (follow > 0) {
                    plan.steps[depth] = 16 * t + FOLLOWED;
                    seek(plan, hedge, depth + 1, passedThen, hour + 1, lastCase, follow - 1);
                }
            }
        }

        private void keepBest(int stepsTaken, int hour) {
            System.arraycopy(steps, 0, best, 0, MOST_TRAVELLERS);
            length = stepsTaken;
            bestHour = hour;
        }

        /** What one could do with a twin ahead of it, the twin was tried with already. */
        private static boolean hasTwinAhead(Hedge hedge, int passed, int traveller) {
            for (int t = 0; t < traveller && t < hedge.travellers; t++) {
                if (!holds(passed, t) && hedge.sets[t] == hedge.sets[traveller]) {
                    return true;
                }
            }
            return false;
        }

        /**
         * Whether the search stood before all that matters from here on as it does now: then
         * nothing better can be found. A place is overwritten by what comes to it later, which
         * costs time alone.
         */
        private boolean wasHere(Hedge hedge, int passed, int hour, int lastCase, int follow) {
            long key = made << 5 | passed;
            key = key << 3 | lastCase + 1;
            key = key << 3 | follow;
            key = key << 4 | hour - start;
            int longest = 2 * (hedge.travellers - Integer.bitCount(passed));
            // all places for words, told or not: keys of two hedges must not be taken for one
            for (int w = 0; w < MOST_WORDS; w++) {
                boolean worn = hedge.isWorn(w, askedAt[w], hour);
                int wornFor = worn ? askedAt[w] + hedge.memory - hour : 0;
                key = key << 4 | Math.min(wornFor, longest);
            }
            int place = (int) (key * SPREAD >>> 54) & PLACES - 1;
            boolean here = seen[place] == key;
            seen[place] = key;
            return here;
        }
    }

    /** TALK: how far one can get depends on the WORDS used and the CASE asked last alone. */
    private static final class Talk {
        private final int[] furthest = new int[MOST_CASES << MOST_WORDS];
        private final int[] row = new int[MOST_WORDS];
        int length = 0;

        void make(Hedge hedge) {
            int worn = wornNow(hedge);
            for (int used = (1 << hedge.words) - 1; used >= 0; used--) {
                for (int c = 0; c < MOST_CASES && (used & worn) == worn; c++) {
                    furthest[used * MOST_CASES + c] = longestFrom(hedge, used, c);
                }
            }
            length = Math.min(longestFrom(hedge, worn, hedge.lastCase), MOST_WORDS);
            tell(hedge, worn);
        }

        int wordAt(int k) {
            return k >= 0 && k < length && k < MOST_WORDS ? row[k] : NONE;
        }

        private static int wornNow(Hedge hedge) {
            int worn = 0;
            for (int w = 0; w < hedge.words; w++) {
                if (hedge.isWorn(w, hedge.askedAt[w], hedge.hour)) {
                    worn |= 1 << w;
                }
            }
            return worn;
        }

        private int longestFrom(Hedge hedge, int used, int lastCase) {
            int longest = 0;
            for (int w = 0; w < hedge.words; w++) {
                longest = Math.max(longest, longestBy(hedge, used, lastCase, w));
            }
            return longest;
        }

        /** The longest row that begins with a WORD; 0 if that may not come here. */
        private int longestBy(Hedge hedge, int used, int lastCase, int word) {
            if (holds(used, word) || !hedge.comesBehind(word, lastCase)) {
                return 0;
            }
            return 1 + furthest[(used | 1 << word) * MOST_CASES + hedge.cases[word]];
        }

        private void tell(Hedge hedge, int worn) {
            int used = worn;
            int lastCase = hedge.lastCase;
            for (int k = 0; k < length; k++) {
                int w = firstBy(hedge, used, lastCase, length - k);
                row[k] = w;
                used |= 1 << w;
                lastCase = hedge.cases[w];
            }
        }

        private int firstBy(Hedge hedge, int used, int lastCase, int left) {
            for (int w = 0; w < hedge.words; w++) {
                if (longestBy(hedge, used, lastCase, w) == left) {
                    return w;
                }
            }
            return 0;
        }
    }

    /** GONE BY: counts the rows of WORDS by which a row of TRAVELLERS can have PASSED. */
    private static final class Ways {
        private final int[] askedAt = new int[MOST_WORDS];
        private final int[] order = new int[MOST_TRAVELLERS];
        private int length = 0;

        /** Whether the ITEMS are TRAVELLERS, none told twice. */
        boolean take(Hedge hedge, Row row, int from, int n) {
            length = Math.min(n, MOST_TRAVELLERS);
            int told = 0;
            for (int k = 0; k < length; k++) {
                int t = row.items[from + k];
                if (!hedge.isTraveller(t) || holds(told, t)) {
                    return false;
                }
                told |= 1 << t;
                order[k] = t;
            }
            return true;
        }

        int tally(Hedge hedge) {
            Arrays.fill(askedAt, NONE);
            return waysFrom(this, hedge, 0, 0, NOTHING_ASKED);
        }

        private static int waysFrom(Ways ways, Hedge hedge, int depth, int hour, int lastCase) {
            if (depth >= ways.length || depth >= MOST_TRAVELLERS) {
                return 1;
            }
            int open = hedge.open(ways.askedAt, hour, lastCase) & hedge.sets[ways.order[depth]];
            if (depth == ways.length - 1) {
                return Integer.bitCount(open);
            }
            int sum = 0;
            for (int w = 0; w < hedge.words; w++) {
                if (holds(open, w)) {
                    int askedBefore = ways.askedAt[w];
                    ways.askedAt[w] = hour;
                    sum += waysFrom(ways, hedge, depth + 1, hour + hedge.hoursFor(w),
                        hedge.cases[w]);
                    ways.askedAt[w] = askedBefore;
                }
            }
            return sum;
        }
    }

    /** ASKS of a WORD by BODIES, and THE TRACE that they leave. */
    private static final class Asking {
        private static final int DEEPEST = 8;

        private final int[] left = new int[MOST_TRACE];
        private int length = 0;

        int answer(Hedge hedge, int word, int[] bodies) {
            length = 0;
            return begin(this, hedge, nearest(hedge, word, bodies), word, 0);
        }

        int traceAt(int i) {
            return i >= 0 && i < length && i < MOST_TRACE ? left[i] : NONE;
        }

        private static int nearest(Hedge hedge, int word, int[] bodies) {
            int k = hedge.isWord(word) ? hedge.kinds[word] : 0;
            for (int up = 0; up < KINDS && k > 0 && k < KINDS && k < bodies.length; up++) {
                if (bodies[k] != 0) {
                    return bodies[k];
                }
                k = kindAbove(k);
            }
            return bodies.length > 0 ? bodies[0] : 0;
        }

        private static int begin(Asking asking, Hedge hedge, int body, int word, int depth) {
            if (depth > DEEPEST || !hedge.isWord(word)) {
                return 0;
            }
            asking.leave(body);
            int deeper = depth + 1;
            switch (body) {
                case 10: return hedge.askedTimes[word];
                case 11: return begin(asking, hedge, 10, word, deeper)
                    + begin(asking, hedge, nearest(hedge, word, MARK_BODIES), word, deeper);
                case 12: return -begin(asking, hedge, 11, word, deeper);
                case 13: return begin(asking, hedge, 10, word, deeper) - 100;
                case 14: return 2 * begin(asking, hedge, 13, word, deeper);
                case 20: return word;
                case 21: return begin(asking, hedge, 20, word, deeper) + hedge.cases[word];
                case 22: return begin(asking, hedge, 21, word, deeper) - 1000;
                case 23: return begin(asking, hedge, 20, word, deeper)
                    - begin(asking, hedge, nearest(hedge, word, SIZE_BODIES), word, deeper);
                case 24: return 2 * begin(asking, hedge, 21, word, deeper);
                default: return 0;
            }
        }

        private void leave(int body) {
            if (length >= 0 && length < MOST_TRACE) {
                left[length] = body;
                length++;
            }
        }
    }
}
