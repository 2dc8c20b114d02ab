import java.util.ArrayDeque;
import java.util.ArrayList;
import java.util.Arrays;
import java.util.Deque;
import java.util.HashMap;
import java.util.List;
import java.util.Map;

/** The document once more, by trying all that there is, to hold the class against. */
final class Oracle {
    static final int NONE = -1000000, BAD = -1000001, STATE = -1000002, FULL = -1000003;

    record Law(int memory, List<Integer> behind) { }

    record Word(char sort, int wordCase) {
        boolean foreign() {
            return sort == 'f' || sort == 'n';
        }
    }

    /** One question of the past; who: -1 where that is nothing to the matter. */
    record Asked(int who, int word, int hour) { }

    /** How things stand; the past is kept whole, nothing is summed up ahead. */
    record Hedge(Law law, List<Word> words, List<Integer> sets, int hour, List<Asked> past,
            List<Integer> followers, int waited) {

        int lastCase() {
            return past.isEmpty() ? -1 : words.get(past.get(past.size() - 1).word()).wordCase();
        }

        boolean may(int word, int inHour) {
            Word w = words.get(word);
            if (!w.foreign()) {
                for (Asked a : past) {
                    if (a.word() == word && inHour - a.hour() < law.memory()) {
                        return false;
                    }
                }
            }
            return mayBehind(w, lastCase());
        }

        boolean mayBehind(Word w, int ahead) {
            if (ahead < 0) {
                return true;
            }
            boolean in = ((1 << w.wordCase()) & law.behind().get(ahead)) != 0;
            return w.sort() == 'e' ? in && w.wordCase() != ahead : in;
        }

        boolean has(int t, int word) {
            return (sets.get(t) & (1 << word)) != 0;
        }

        int passedBy(int t) {
            for (Asked a : past) {
                if (a.who() == t) {
                    return a.word();
                }
            }
            return followers.contains(t) ? 8 : NONE;
        }

        int mayFollow() {
            return (int) past.stream().filter(a -> words.get(a.word()).sort() == 'i').count() - followers.size();
        }

        Hedge asking(int t, int word) {
            List<Asked> longer = new ArrayList<>(past);
            longer.add(new Asked(t, word, hour));
            return new Hedge(law, words, sets, hour + (words.get(word).sort() == 'n' ? 2 : 1), longer, followers,
                waited);
        }

        Hedge following(int t) {
            List<Integer> longer = new ArrayList<>(followers);
            longer.add(t);
            return new Hedge(law, words, sets, hour + 1, past, longer, waited);
        }

        Hedge waiting(int n) {
            return new Hedge(law, words, sets, hour + n, past, followers, waited + n);
        }

        Hedge fresh() {
            return new Hedge(law, words, sets, 0, List.of(), List.of(), 0);
        }
    }

    private final Map<Integer, int[]> rows = new HashMap<>();
    private final Map<Integer, Integer> lanes = new HashMap<>();
    private final StringBuilder tape = new StringBuilder();
    private final Deque<Hedge> before = new ArrayDeque<>();
    private final Map<Integer, Hedge> images = new HashMap<>();
    private final List<Integer> trace = new ArrayList<>();
    private final List<Planned> planned = new ArrayList<>();
    private final List<Integer> talk = new ArrayList<>();
    private Hedge plannedFor = null;
    private Hedge talkedFor = null;
    private Hedge now = null;
    private int status = 0;
    private int fault = 0;

    // ---- rows

    private int finding(int number) {
        status = number;
        return -1000010 - number;
    }

    private int good(int answer) {
        status = 0;
        return answer;
    }

    private static boolean between(long least, long v, long most) {
        return least <= v && v <= most;
    }

    int row(int row, int lane, int n) {
        if (!between(0, row, 7) || !between(0, lane, 2) || n > 40) {
            return BAD;
        }
        if (n < 0) {
            return finding(4);
        }
        rows.put(row, new int[n]);
        lanes.put(row, lane);
        return good(n);
    }

    int set(int row, int i, int v) {
        if (!between(0, row, 7)) {
            return BAD;
        }
        int[] items = rows.get(row);
        if (items == null) {
            return finding(1);
        }
        if (!between(0, i, items.length - 1L)) {
            return finding(2);
        }
        int bits = 8 << lanes.get(row);
        long cut = v & ((1L << bits) - 1);
        items[i] = (int) (cut >= 1L << (bits - 1) ? cut - (1L << bits) : cut);
        return good(items[i]);
    }

    int copy(int a, int i, int b, int j, int n) {
        if (!between(0, a, 7) || !between(0, b, 7)) {
            return BAD;
        }
        if (!rows.containsKey(a) || !rows.containsKey(b)) {
            return finding(1);
        }
        if (!lanes.get(a).equals(lanes.get(b))) {
            return finding(5);
        }
        if (i < 0 || j < 0 || n < 0 || (long) i + n > rows.get(a).length || (long) j + n > rows.get(b).length) {
            return finding(2);
        }
        int[] taken = Arrays.copyOfRange(rows.get(a), i, i + n);
        for (int k = 0; k < n; k++) {
            rows.get(b)[j + k] = taken[k];
        }
        return good(n);
    }

    int drop(int row) {
        if (!between(0, row, 7)) {
            return BAD;
        }
        int[] items = rows.remove(row);
        return items == null ? finding(1) : good(items.length);
    }

    // ---- hedges, acts

    int feed(int letter) {
        if (!between(0, letter, 255)) {
            return BAD;
        }
        if (tape.length() >= 120) {
            return FULL;
        }
        tape.append((char) letter);
        return tape.length();
    }

    /** One token; its text is empty at the end, and null where there is none. */
    private record Token(int place, String text) {
        boolean is(String sign) {
            return sign.equals(text);
        }

        boolean number() {
            return text != null && text.matches("[0-9]{1,3}");
        }
    }

    private static List<Token> tokens(String text) {
        List<Token> tokens = new ArrayList<>();
        int i = 0;
        while (i < text.length()) {
            int end = i;
            while (end < text.length() && text.charAt(end) >= '0' && text.charAt(end) <= '9') {
                end++;
            }
            if (end == i) {
                String one = text.substring(i, i + 1);
                tokens.add(new Token(i, one.matches("[a-z,;]") ? one : null));
                i++;
            } else {
                tokens.add(new Token(i, end - i > 3 ? null : text.substring(i, end)));
                i = end;
            }
        }
        tokens.add(new Token(text.length(), ""));
        return tokens;
    }

    private static final class Faulty extends Exception {
        private static final long serialVersionUID = 1L;
        final int place;
        final int number;

        Faulty(Token token, int number) {
            this.place = token.place();
            this.number = number;
        }
    }

    private static int number(Token token, int least, int most) throws Faulty {
        if (!token.number()) {
            throw new Faulty(token, 1);
        }
        int value = Integer.parseInt(token.text());
        if (!between(least, value, most)) {
            throw new Faulty(token, 2);
        }
        return value;
    }

    private static void sign(Token token, String sign) throws Faulty {
        if (!token.is(sign)) {
            throw new Faulty(token, 1);
        }
    }

    private static Hedge parse(String text) throws Faulty {
        List<Token> t = tokens(text);
        sign(t.get(0), "h");
        int memory = number(t.get(1), 1, 24);
        List<Integer> behind = new ArrayList<>();
        for (int c = 0; c < 4; c++) {
            sign(t.get(2 + 2 * c), ",");
            behind.add(number(t.get(3 + 2 * c), 0, 15));
        }
        sign(t.get(10), ";");
        List<Word> words = new ArrayList<>();
        List<Integer> sets = new ArrayList<>();
        for (int i = 11; !t.get(i).is(""); i += 3) {
            Token head = t.get(i);
            boolean word = head.text() != null && head.text().matches("[piefn]") && sets.isEmpty();
            if (!word && !head.is("t")) {
                throw new Faulty(head, 1);
            }
            if (word ? words.size() == 8 : sets.size() == 5) {
                throw new Faulty(head, 3);
            }
            int value = number(t.get(i + 1), word ? 0 : 1, word ? 3 : (1 << words.size()) - 1);
            sign(t.get(i + 2), ";");
            if (word) {
                words.add(new Word(head.text().charAt(0), value));
            } else {
                sets.add(value);
            }
        }
        return new Hedge(new Law(memory, behind), words, sets, 0, List.of(), List.of(), 0);
    }

    int hedge() {
        String text = tape.toString();
        tape.setLength(0);
        try {
            now = parse(text);
            before.clear();
            return now.sets().size();
        } catch (Faulty f) {
            fault = f.number;
            return -1000100 - f.place;
        }
    }

    int fault() {
        return fault;
    }

    private boolean noWord(int word) {
        return now == null || !between(0, word, now.words().size() - 1L);
    }

    private boolean noTraveller(int t) {
        return now == null || !between(0, t, now.sets().size() - 1L);
    }

    private void act(Hedge next) {
        before.addLast(now);
        if (before.size() > 24) {
            before.removeFirst();
        }
        now = next;
    }

    int asks(int t, int word) {
        if (noTraveller(t) || noWord(word)) {
            return BAD;
        }
        if (now.passedBy(t) != NONE || !now.has(t, word) || !now.may(word, now.hour())) {
            return STATE;
        }
        act(now.asking(t, word));
        return now.hour();
    }

    int follows(int t) {
        if (noTraveller(t)) {
            return BAD;
        }
        if (now.passedBy(t) != NONE || now.mayFollow() < 1) {
            return STATE;
        }
        act(now.following(t));
        return now.mayFollow();
    }

    int waits(int n) {
        if (now == null) {
            return STATE;
        }
        if (!between(1, n, 24)) {
            return BAD;
        }
        if (now.hour() + n > 999) {
            return FULL;
        }
        act(now.waiting(n));
        return now.hour();
    }

    int undo() {
        if (before.isEmpty()) {
            return STATE;
        }
        now = before.removeLast();
        return before.size();
    }

    int word(int word, int what) {
        if (noWord(word) || !between(0, what, 3)) {
            return BAD;
        }
        int[] hours = now.past().stream().filter(a -> a.word() == word).mapToInt(Asked::hour).toArray();
        return switch (what) {
            case 0 -> now.words().get(word).wordCase();
            case 1 -> hours.length == 0 ? NONE : hours[hours.length - 1];
            case 2 -> hours.length;
            default -> now.may(word, now.hour()) ? 1 : 0;
        };
    }

    int traveller(int t, int what) {
        if (noTraveller(t) || !between(0, what, 2)) {
            return BAD;
        }
        return what == 0 ? now.sets().get(t) : what == 2 ? now.passedBy(t) : now.passedBy(t) == NONE ? 0 : 1;
    }

    // ---- foretold

    private static int can(Hedge h, int t, int hour) {
        int can = 0;
        for (int w = 0; w < h.words().size(); w++) {
            can += h.has(t, w) && h.may(w, hour) ? 1 << w : 0;
        }
        return can;
    }

    int can(int t) {
        return noTraveller(t) ? BAD : now.passedBy(t) != NONE ? STATE : can(now, t, now.hour());
    }

    int soon(int t) {
        if (noTraveller(t)) {
            return BAD;
        }
        if (now.passedBy(t) != NONE) {
            return STATE;
        }
        for (int n = 0; n <= 48; n++) {
            if (can(now, t, now.hour() + n) != 0) {
                return now.hour() + n;
            }
        }
        return NONE;
    }

    private record Planned(int hour, List<Integer> steps) { }

    private static void allPlans(Hedge h, List<Integer> steps, List<Planned> best) {
        boolean over = true;
        for (int t = 0; t < h.sets().size(); t++) {
            if (h.passedBy(t) != NONE) {
                continue;
            }
            over = false;
            for (int w = 0; w <= 8; w++) {
                boolean asks = w < h.words().size() && h.has(t, w) && h.may(w, h.hour());
                boolean follows = w == 8 && h.mayFollow() > 0;
                if (asks || follows) {
                    steps.add(16 * t + w);
                    allPlans(asks ? h.asking(t, w) : h.following(t), steps, best);
                    steps.remove(steps.size() - 1);
                }
            }
        }
        if (over && (best.isEmpty() || h.hour() < best.get(0).hour())) {
            best.clear();
            best.add(new Planned(h.hour(), new ArrayList<>(steps)));
        }
    }

    int plan(int k) {
        if (now == null) {
            return STATE;
        }
        if (!between(-1, k, 4)) {
            return BAD;
        }
        // a hedge never changes, so what was planned for it holds as long as it stands
        if (plannedFor != now) {
            plannedFor = now;
            planned.clear();
            allPlans(now, new ArrayList<>(), planned);
        }
        if (planned.isEmpty()) {
            return NONE;
        }
        List<Integer> steps = planned.get(0).steps();
        return k < 0 ? planned.get(0).hour() : k < steps.size() ? steps.get(k) : NONE;
    }

    private void longest(List<Integer> talk, List<Integer> best) {
        if (talk.size() > best.size()) {
            best.clear();
            best.addAll(talk);
        }
        int ahead = talk.isEmpty() ? now.lastCase() : now.words().get(talk.get(talk.size() - 1)).wordCase();
        for (int w = 0; w < now.words().size(); w++) {
            Word word = now.words().get(w);
            boolean worn = !word.foreign() && word(w, 1) != NONE && now.hour() - word(w, 1) < now.law().memory();
            if (!worn && !talk.contains(w) && now.mayBehind(word, ahead)) {
                talk.add(w);
                longest(talk, best);
                talk.remove(talk.size() - 1);
            }
        }
    }

    int talk(int k) {
        if (now == null) {
            return STATE;
        }
        if (!between(-1, k, 7)) {
            return BAD;
        }
        if (talkedFor != now) {
            talkedFor = now;
            talk.clear();
            longest(new ArrayList<>(), talk);
        }
        return k < 0 ? talk.size() : k < talk.size() ? talk.get(k) : NONE;
    }

    int family(int set, int what) {
        if (now == null) {
            return STATE;
        }
        if (!between(0, set, (1 << now.sets().size()) - 1) || !between(0, what, 1)) {
            return BAD;
        }
        for (int size = 0; size <= 8; size++) {
            for (int words = 0; words < 256; words++) {
                boolean all = Integer.bitCount(words) == size;
                for (int t = 0; t < now.sets().size(); t++) {
                    all &= (set & (1 << t)) == 0 || (now.sets().get(t) & words) != 0;
                }
                if (all) {
                    return what == 0 ? size : words;
                }
            }
        }
        throw new IllegalStateException("a traveller without a word");
    }

    int ban(int what) {
        if (now == null) {
            return STATE;
        }
        if (!between(0, what, 1)) {
            return BAD;
        }
        int[] able = new int[now.words().size()];
        for (int w = 0; w < able.length; w++) {
            for (int t = 0; t < now.sets().size(); t++) {
                boolean passed = now.passedBy(t) != NONE;
                able[w] += !passed && (can(now, t, now.hour()) & ~(1 << w)) != 0 ? 1 : 0;
            }
        }
        int fewest = Arrays.stream(able).min().orElse(NONE);
        for (int w = 0; w < able.length; w++) {
            if (able[w] == fewest) {
                return what == 0 ? w : fewest;
            }
        }
        return NONE;
    }

    private boolean matched(int words, int travellers) {
        if (words == 0 || travellers == 0) {
            return words == travellers;
        }
        int t = Integer.numberOfTrailingZeros(travellers);
        for (int w = 0; w < 8; w++) {
            if ((words & now.sets().get(t) & (1 << w)) != 0 && matched(words ^ (1 << w), travellers ^ (1 << t))) {
                return true;
            }
        }
        return false;
    }

    int who(int words, int what) {
        if (now == null) {
            return STATE;
        }
        if (!between(0, words, (1 << now.words().size()) - 1) || !between(0, what, 1)) {
            return BAD;
        }
        List<Integer> companies = new ArrayList<>();
        for (int s = 0; s < 1 << now.sets().size(); s++) {
            if (matched(words, s)) {
                companies.add(s);
            }
        }
        return what == 0 ? companies.size() : companies.isEmpty() ? NONE : companies.get(0);
    }

    private static int ways(Hedge h, List<Integer> order) {
        if (order.isEmpty()) {
            return 1;
        }
        int ways = 0;
        for (int w = 0; w < h.words().size(); w++) {
            if (h.has(order.get(0), w) && h.may(w, h.hour())) {
                ways += ways(h.asking(order.get(0), w), order.subList(1, order.size()));
            }
        }
        return ways;
    }

    int goneBy(int row, int i, int n) {
        if (now == null) {
            return STATE;
        }
        if (!between(0, row, 7) || !between(0, n, 5)) {
            return BAD;
        }
        int[] items = rows.get(row);
        if (items == null) {
            return finding(1);
        }
        if (i < 0 || (long) i + n > items.length) {
            return finding(2);
        }
        List<Integer> order = new ArrayList<>();
        for (int k = i; k < i + n; k++) {
            if (noTraveller(items[k]) || order.contains(items[k])) {
                return BAD;
            }
            order.add(items[k]);
        }
        return good(ways(now.fresh(), order));
    }

    int image(int k) {
        if (!between(0, k, 1)) {
            return BAD;
        }
        if (now == null) {
            return STATE;
        }
        images.put(k, now);
        return 1;
    }

    int restore(int k) {
        if (!between(0, k, 1)) {
            return BAD;
        }
        if (!images.containsKey(k)) {
            return STATE;
        }
        now = images.get(k);
        before.clear();
        return 1;
    }

    // ---- asked

    /** The kinds as classes: what is told for one stands in place of what is told above it. */
    private class WordBody {
        final int number;

        WordBody(int number) {
            this.number = number;
        }

        int size() {
            trace.add(10);
            return word(number, 2);
        }

        int mark() {
            trace.add(20);
            return number;
        }
    }

    private class PlainBody extends WordBody {
        PlainBody(int number) {
            super(number);
        }

        @Override int size() {
            trace.add(11);
            return super.size() + mark();
        }

        @Override int mark() {
            trace.add(21);
            return super.mark() + word(number, 0);
        }
    }

    private final class IfBody extends PlainBody {
        IfBody(int number) {
            super(number);
        }

        @Override int size() {
            trace.add(12);
            return -super.size();
        }

        @Override int mark() {
            trace.add(24);
            return 2 * super.mark();
        }
    }

    private final class EchoBody extends PlainBody {
        EchoBody(int number) {
            super(number);
        }

        @Override int mark() {
            trace.add(22);
            return super.mark() - 1000;
        }
    }

    private class ForeignBody extends WordBody {
        ForeignBody(int number) {
            super(number);
        }

        @Override int size() {
            trace.add(13);
            return super.size() - 100;
        }

        @Override int mark() {
            trace.add(23);
            return super.mark() - size();
        }
    }

    private final class NoBody extends ForeignBody {
        NoBody(int number) {
            super(number);
        }

        @Override int size() {
            trace.add(14);
            return 2 * super.size();
        }
    }

    private WordBody body(int word) {
        return switch (now.words().get(word).sort()) {
            case 'p' -> new PlainBody(word);
            case 'i' -> new IfBody(word);
            case 'e' -> new EchoBody(word);
            case 'f' -> new ForeignBody(word);
            default -> new NoBody(word);
        };
    }

    int kind(int word) {
        return noWord(word) ? BAD : "piefn".indexOf(now.words().get(word).sort()) + 1;
    }

    int as(int word, int kind) {
        if (noWord(word) || !between(0, kind, 5)) {
            return BAD;
        }
        WordBody b = body(word);
        boolean is = switch (kind) {
            case 0 -> true;
            case 1 -> b instanceof PlainBody;
            case 2 -> b instanceof IfBody;
            case 3 -> b instanceof EchoBody;
            case 4 -> b instanceof ForeignBody;
            default -> b instanceof NoBody;
        };
        return is ? good(word) : finding(3);
    }

    int ask(int word, int what) {
        if (noWord(word) || !between(0, what, 1)) {
            return BAD;
        }
        trace.clear();
        return what == 0 ? body(word).size() : body(word).mark();
    }

    int trace(int i) {
        return between(0, i, Math.min(trace.size(), 16) - 1L) ? trace.get(i) : NONE;
    }

    int count(int what) {
        return switch (what) {
            case 0 -> rows.size();
            case 1 -> now == null ? 0 : now.words().size();
            case 2 -> now == null ? 0 : now.sets().size();
            case 3 -> now == null ? 0 : now.hour();
            case 4 -> now == null ? -1 : now.lastCase();
            case 5 -> now == null ? 0 : now.mayFollow();
            case 6 -> now == null ? 0 : now.past().size() + now.followers().size();
            case 7 -> before.size();
            case 8 -> tape.length();
            default -> BAD;
        };
    }

    int status() {
        return status;
    }
}
