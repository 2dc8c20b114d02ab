import java.util.Arrays;
import java.util.Random;

/**
 * PLAN of many hedges made by lot (the same every time), held against a search that leaves nothing out: the class
 * leaves out ways that it has met already, and has to know which are alike.
 */
public final class PlanTest {
    private static final Check CHECK = new Check("plan");
    private static final int HEDGES = 40000, NONE = HedgeGate.NONE;

    private final Random lot;
    private final int memory;
    private final int[] behind = new int[4];
    private final char[] sorts;
    private final int[] cases;
    private final int[] sets;
    private final int[] askedAt;
    private int passed = 0;
    private int hour = 0;
    private int lastCase = -1;
    private int follow = 0;
    private final int[] steps = new int[5];
    private int best = Integer.MAX_VALUE;
    private int[] bestSteps = {};

    private PlanTest(int seed) {
        lot = new Random(seed);
        memory = 1 + lot.nextInt(lot.nextInt(3) == 0 ? 24 : 8);
        boolean loose = lot.nextInt(3) > 0;
        for (int c = 0; c < 4; c++) {
            behind[c] = lot.nextInt(16) | (loose ? lot.nextInt(16) : 0);
        }
        int words = 1 + lot.nextInt(8);
        String likely = lot.nextBoolean() ? "piefn" : lot.nextBoolean() ? "ppn" : "ppie";
        sorts = new char[words];
        cases = new int[words];
        askedAt = new int[words];
        int mostCase = lot.nextBoolean() ? 4 : 2;
        for (int w = 0; w < words; w++) {
            sorts[w] = likely.charAt(lot.nextInt(likely.length()));
            cases[w] = lot.nextInt(mostCase);
            askedAt[w] = NONE;
        }
        sets = new int[lot.nextInt(8) == 0 ? lot.nextInt(4) : 4 + lot.nextInt(2)];
        for (int t = 0; t < sets.length; t++) {
            for (int n = 1 + lot.nextInt(3); n > 0; n--) {
                sets[t] |= 1 << lot.nextInt(words);
            }
        }
    }

    public static void main(String[] args) {
        for (int seed = 0; seed < HEDGES; seed++) {
            new PlanTest(seed).hold();
        }
        CHECK.end();
    }

    private String text() {
        StringBuilder text = new StringBuilder("h").append(memory);
        for (int set : behind) {
            text.append(',').append(set);
        }
        text.append(';');
        for (int w = 0; w < sorts.length; w++) {
            text.append(sorts[w]).append(cases[w]).append(';');
        }
        for (int set : sets) {
            text.append('t').append(set).append(';');
        }
        return text.toString();
    }

    private void hold() {
        HedgeGate gate = Check.gate(text());
        for (int days = lot.nextInt(3) == 0 ? lot.nextInt(41) : 0; days > 0; days--) {
            hour += 24;
            CHECK.due("a day", gate.waits(24), hour);
        }
        int acts = 0;
        do {
            best = Integer.MAX_VALUE;
            bestSteps = new int[0];
            seek(0);
            same(gate, text() + " behind " + acts + " acts");
            acts++;
        } while (acts < 4 && act(gate));
    }

    private void same(HedgeGate gate, String told) {
        CHECK.due(told + ": hour", gate.plan(-1), best == Integer.MAX_VALUE ? NONE : best);
        for (int k = 0; k < 5; k++) {
            CHECK.due(told + ": step " + k, gate.plan(k), k < bestSteps.length ? bestSteps[k] : NONE);
        }
    }

    private boolean may(int w) {
        boolean worn = sorts[w] != 'f' && sorts[w] != 'n' && askedAt[w] != NONE && hour - askedAt[w] < memory;
        boolean comes = lastCase < 0 || (behind[lastCase] >> cases[w] & 1) == 1 && (sorts[w] != 'e' || cases[w] != lastCase);
        return !worn && comes;
    }

    /** Steps are tried in the document's order, so of the least the first is met first. */
    private void seek(int depth) {
        if (passed == (1 << sets.length) - 1) {
            if (hour < best) {
                best = hour;
                bestSteps = Arrays.copyOf(steps, depth);
            }
            return;
        }
        for (int t = 0; t < sets.length; t++) {
            for (int w = 0; w <= 8 && (passed >> t & 1) == 0; w++) {
                if (w == 8 ? follow > 0 : w < sorts.length && (sets[t] >> w & 1) == 1 && may(w)) {
                    steps[depth] = 16 * t + w;
                    tryOne(t, w, depth);
                }
            }
        }
    }

    private void tryOne(int t, int w, int depth) {
        int[] now = {passed, hour, lastCase, follow, w < 8 ? askedAt[w] : NONE};
        pass(t, w);
        seek(depth + 1);
        passed = now[0];
        hour = now[1];
        lastCase = now[2];
        follow = now[3];
        if (w < 8) {
            askedAt[w] = now[4];
        }
    }

    private void pass(int t, int w) {
        passed |= 1 << t;
        if (w == 8) {
            follow--;
            hour++;
            return;
        }
        askedAt[w] = hour;
        lastCase = cases[w];
        follow += sorts[w] == 'i' ? 1 : 0;
        hour += sorts[w] == 'n' ? 2 : 1;
    }

    /** One act by lot; false if there is none to be done. */
    private boolean act(HedgeGate gate) {
        if (lot.nextInt(3) == 0) {
            int n = 1 + lot.nextInt(3);
            CHECK.due("hours", gate.waits(n), hour + n);
            hour += n;
            return true;
        }
        for (int tries = 0; tries < 40 && sets.length > 0; tries++) {
            int t = lot.nextInt(sets.length);
            int w = lot.nextInt(sorts.length);
            if ((passed >> t & 1) == 0 && (sets[t] >> w & 1) == 1 && may(w)) {
                pass(t, w);
                CHECK.due("asks", gate.asks(t, w), hour);
                return true;
            }
        }
        return false;
    }
}
