import java.util.ArrayList;
import java.util.List;

/** What can be seen of a gate, by calls alone. */
final class Look {
    /** Traveller t has t + 1 words, each of which may be asked first: an item of a row can be told by it. */
    static final String TELLING = "h1,15,15,15,15;f0;f0;f0;f0;f0;t1;t3;t7;t15;t31;";

    private Look() { }

    /** An item 0 to 4 of a row, of a gate with the hedge TELLING; BAD for another one. */
    static int item(HedgeGate x, int row, int i) {
        int ways = x.goneBy(row, i, 1);
        return ways > 0 ? ways - 1 : ways;
    }

    /** The lane of a row with an item at least, which is another one then. */
    static int lane(HedgeGate x, int row) {
        int cut = x.set(row, 0, 70000);
        return cut == 112 ? 0 : cut == 4464 ? 1 : cut == 70000 ? 2 : cut;
    }

    /** How the hedge stands, and what is told of it; nothing changes. */
    static List<Integer> hedge(HedgeGate x) {
        List<Integer> seen = new ArrayList<>();
        for (int what = 1; what <= 7; what++) {
            seen.add(x.count(what));
        }
        for (int w = 0; w < 8; w++) {
            seen.add(x.kind(w));
            for (int what = 0; what < 4; what++) {
                seen.add(x.word(w, what));
            }
        }
        for (int t = 0; t < 5; t++) {
            for (int what = 0; what < 3; what++) {
                seen.add(x.traveller(t, what));
            }
            seen.add(x.can(t));
            seen.add(x.soon(t));
        }
        return seen;
    }

    /** All that there is, and was, by some 330 calls at most; the gate is of no use behind it. */
    static List<Integer> all(HedgeGate x) {
        List<Integer> seen = new ArrayList<>(hedge(x));
        seen.add(x.fault());
        seen.add(x.count(8));
        for (int i = 0; i < 7; i++) {
            seen.add(x.trace(i));
        }
        seen.add(x.count(0));
        seen.add(x.plan(-1));
        seen.add(x.talk(-1));
        for (int i = 0; i < 6; i++) {
            seen.add(x.goneBy(0, i, 1));
            seen.add(x.goneBy(7, i, 1));
        }
        for (int row = 0; row < 8; row++) {
            seen.add(lane(x, row));
            seen.add(x.drop(row));
        }
        int left = 0;
        for (int n = 0; n < 26 && left >= 0; n++) {
            left = x.undo();
            seen.add(left);
            seen.add(x.count(3));
            seen.add(x.count(6));
        }
        seen.add(x.hedge());
        seen.add(x.fault());
        for (int k = 0; k < 2; k++) {
            int kept = x.restore(k);
            seen.add(kept);
            if (kept == 1) {
                seen.addAll(hedge(x));
            }
        }
        return seen;
    }
}
