import java.io.IOException;
import java.nio.file.Files;
import java.nio.file.Path;
import java.util.BitSet;
import java.util.Map;
import java.util.TreeMap;
import java.util.regex.Matcher;
import java.util.regex.Pattern;

/**
 * The document's sentences that name an edge, each with the answers that it makes due. A sentence
 * that does not stand in the document, one without an answer, and an edge of the document that no
 * sentence here tells are wrong.
 */
final class Edges {
    /** Where the Terms stand; the promises stand at their numbers. */
    static final int TERMS = 0;
    private static final int PROMISES = 30;
    private static final Pattern HEAD = Pattern.compile("(?m)^## (.*)$");
    private static final Pattern EDGE = Pattern.compile("\\b(BAD|STATE|FULL|NONE|NULL|PLACE|KIND|SIZE|STORE|no|none"
        + "|No|nothing|nobody|empty|missing|most|least|fewest|first|last|latest|beyond|below|above|ahead|never|twice"
        + "|\\d+)\\b");

    private final Check check = new Check("edges");
    private final Map<Integer, String> document = new TreeMap<>();
    private final Map<Integer, BitSet> told = new TreeMap<>();
    private String sentence = "no sentence";
    private int answers = 1;
    private int sentences = 0;

    /** Without the document its sentences cannot be looked up; their answers are due all the same. */
    Edges(Path path) throws IOException {
        if (Files.isReadable(path)) {
            take(Files.readString(path));
        } else {
            System.out.println("edges: there is no document at " + path + ", its sentences are not looked up");
        }
    }

    private void take(String text) {
        Matcher head = HEAD.matcher(text);
        int place = -1;
        int from = 0;
        while (head.find()) {
            keep(place, text.substring(from, head.start()));
            place = placeOf(head.group(1));
            from = head.end();
        }
        keep(place, text.substring(from));
        check.due("places of the document", document.size(), PROMISES + 1);
    }

    private static int placeOf(String title) {
        if (title.equals("Terms")) {
            return TERMS;
        }
        Matcher promise = Pattern.compile("Promise (\\d+): .*").matcher(title);
        return promise.matches() ? Integer.parseInt(promise.group(1)) : -1;
    }

    private void keep(int place, String text) {
        if (place >= 0) {
            String plain = text.replaceAll("```(text)?", " ").replaceAll("======== \\d", " ").replaceAll("\\s+", " ");
            document.put(place, plain);
            told.put(place, new BitSet());
        }
    }

    /** The answers from here on are due by these words of a promise (or of the Terms). */
    void sentence(int place, String words) {
        endSentence();
        sentence = (place == TERMS ? "terms" : "promise " + place) + " '" + words + "'";
        answers = 0;
        sentences++;
        mark(place, words);
    }

    /** Words of the document with an edge that no call can come to. */
    void outOfReach(int place, String words, String why) {
        sentence(place, words);
        holds(why, !why.isEmpty());
    }

    private void mark(int place, String words) {
        if (document.isEmpty()) {
            return;
        }
        int at = document.get(place).indexOf(words);
        while (at >= 0 && told.get(place).get(at)) {
            at = document.get(place).indexOf(words, at + 1);
        }
        check.holds(sentence + " stands in the document, and was not told here before", at >= 0);
        if (at >= 0) {
            told.get(place).set(at, at + words.length());
        }
    }

    private void endSentence() {
        check.holds(sentence + " has an answer", answers > 0);
    }

    void due(String call, int got, int want) {
        answers++;
        check.due(sentence + ": " + call, got, want);
    }

    void holds(String what, boolean so) {
        answers++;
        check.holds(sentence + ": " + what, so);
    }

    void end() {
        endSentence();
        for (Map.Entry<Integer, String> part : document.entrySet()) {
            everyEdgeIsTold(part.getKey(), part.getValue());
        }
        System.out.println("edges: " + sentences + " sentences");
        check.end();
    }

    private void everyEdgeIsTold(int place, String text) {
        Matcher edge = EDGE.matcher(text);
        while (edge.find()) {
            String around = text.substring(Math.max(0, edge.start() - 20), Math.min(text.length(), edge.end() + 20));
            check.holds("place " + place + ": '" + edge.group() + "' in '" + around + "' has a sentence",
                told.get(place).get(edge.start()));
        }
    }
}
