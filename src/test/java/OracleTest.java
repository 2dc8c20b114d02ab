import java.util.Random;

/** Runs of calls made by lot (the same every time), each answer held against the Oracle's. */
public final class OracleTest {
    private static final Check CHECK = new Check("oracle");
    private static final int RUNS = 1500, CALLS = 512;
    private static final String[] NAMES = {"row", "set", "copy", "drop", "feed", "hedge", "fault", "asks", "follows",
        "waits", "undo", "word", "traveller", "can", "soon", "plan", "talk", "family", "ban", "who", "goneBy",
        "image", "restore", "kind", "as", "ask", "trace", "count", "status"};
    private static final int[] EDGES = {Integer.MIN_VALUE, -1000000, -2, -1, 8, 9, 24, 25, 40, 41, 255, 256,
        Integer.MAX_VALUE};

    private final Random lot;
    private final HedgeGate gate = new HedgeGate();
    private final Oracle oracle = new Oracle();
    private final StringBuilder run = new StringBuilder();
    private int calls = 0;

    private OracleTest(int seed) {
        lot = new Random(seed);
    }

    public static void main(String[] args) {
        for (int seed = 0; seed < RUNS; seed++) {
            new OracleTest(seed).go(seed);
        }
        CHECK.end();
    }

    private void go(int seed) {
        if (lot.nextInt(4) > 0) {
            tell(text());
        }
        while (calls < CALLS) {
            int what = lot.nextInt(100);
            if (what < 3) {
                tell(lot.nextInt(3) == 0 ? marred(text()) : text());
            } else if (what < 40) {
                act();
            } else if (what < 45) {
                goneBy();
            } else if (what < 55) {
                allOf(lot.nextBoolean() ? 15 : 16);
            } else {
                any(lot.nextInt(NAMES.length));
            }
        }
        CHECK.due("calls of run " + seed, calls, CALLS);
    }

    private void call(int name, int... a) {
        // nothing is promised of an object behind its 512th call
        if (calls == CALLS) {
            return;
        }
        int[] n = new int[5];
        System.arraycopy(a, 0, n, 0, a.length);
        calls++;
        int got = ofGate(name, n);
        int want = ofOracle(name, n);
        String told = NAMES[name] + java.util.Arrays.toString(a);
        run.append(told).append(' ').append(got).append('\n');
        CHECK.due(told, got, want);
        if (got != want) {
            System.out.println("the run:\n" + run);
            CHECK.end();
        }
    }

    private void tell(String text) {
        for (int i = 0; i < text.length(); i++) {
            call(4, text.charAt(i));
        }
        call(5);
        call(6);
    }

    /** A sound text; laws that let much through are told oftener than such that let little. */
    private String text() {
        StringBuilder text = new StringBuilder("h").append(1 + lot.nextInt(lot.nextBoolean() ? 4 : 24));
        boolean loose = lot.nextBoolean();
        for (int c = 0; c < 4; c++) {
            text.append(',').append(lot.nextInt(16) | (loose ? lot.nextInt(16) : 0));
        }
        text.append(';');
        int words = lot.nextInt(20) == 0 ? 0 : 1 + lot.nextInt(8);
        String sorts = lot.nextBoolean() ? "piefn" : "piipeei";
        for (int w = 0; w < words; w++) {
            text.append(sorts.charAt(lot.nextInt(sorts.length()))).append(lot.nextInt(4)).append(';');
        }
        // few words for each where there are many travellers, else the Oracle takes too long
        int travellers = words == 0 ? 0 : lot.nextInt(6);
        for (int t = 0; t < travellers; t++) {
            int set = 1 << lot.nextInt(words);
            int more = lot.nextInt(travellers == 5 ? 3 : 8);
            for (int i = 0; i < more; i++) {
                set |= 1 << lot.nextInt(words);
            }
            text.append('t').append(lot.nextInt(9) == 0 ? "0" : "").append(set).append(';');
        }
        return text.toString().replaceAll("[0-9]{4,}", "1");
    }

    private String marred(String text) {
        String letters = "hpiefnt,;0123456789 xA" + (char) 0 + (char) 200;
        StringBuilder marred = new StringBuilder(text);
        for (int n = 1 + lot.nextInt(2); n > 0; n--) {
            int at = lot.nextInt(marred.length() + 1);
            char letter = letters.charAt(lot.nextInt(letters.length()));
            switch (lot.nextInt(4)) {
                case 0 -> marred.insert(at, letter);
                case 1 -> marred.setLength(at);
                case 2 -> marred.append(letter).append(lot.nextInt(6)).append(';');
                default -> marred.replace(at, Math.min(at + 1, marred.length()), String.valueOf(letter));
            }
        }
        return marred.toString();
    }

    private void act() {
        switch (lot.nextInt(9)) {
            case 0 -> call(9, 1 + lot.nextInt(lot.nextInt(4) == 0 ? 24 : 3));
            case 1 -> call(10);
            case 2, 3 -> call(8, lot.nextInt(5));
            default -> askWhatCan();
        }
    }

    private void askWhatCan() {
        int t = lot.nextInt(5);
        int can = oracle.can(t);
        int word = lot.nextInt(8);
        for (int i = 0; i < 8 && can > 0 && (can >> word & 1) == 0; i++) {
            word = (word + 1) % 8;
        }
        call(7, t, word);
    }

    private void goneBy() {
        int row = lot.nextInt(8);
        int n = lot.nextInt(6);
        call(0, row, lot.nextInt(3), n + lot.nextInt(4));
        int first = lot.nextInt(5);
        int by = 1 + lot.nextInt(4);
        for (int i = 0; i < n; i++) {
            call(1, row, i, lot.nextInt(12) == 0 ? lot.nextInt(7) - 1 : (first + by * i) % 5);
        }
        call(20, row, 0, lot.nextInt(n + 1));
        call(20, row, lot.nextInt(n + 1), lot.nextInt(n + 1));
        call(28);
    }

    private void allOf(int name) {
        for (int k = -1; k < (name == 15 ? 5 : 8); k++) {
            call(name, k);
        }
    }

    private int number(int most) {
        return lot.nextInt(12) == 0 ? EDGES[lot.nextInt(EDGES.length)] : lot.nextInt(most + 2) - (lot.nextInt(9) == 0 ? 1 : 0);
    }

    private void any(int name) {
        switch (name) {
            case 0 -> call(name, number(7), number(2), number(lot.nextBoolean() ? 6 : 40));
            case 1 -> call(name, number(7), number(6), lot.nextBoolean() ? lot.nextInt(6) : lot.nextInt());
            case 2 -> call(name, number(7), number(4), number(7), number(4), number(4));
            case 4 -> call(name, number(255));
            case 5 -> call(name);
            case 7 -> call(name, number(4), number(7));
            case 9 -> call(name, number(24));
            case 11 -> call(name, number(7), number(3));
            case 12 -> call(name, number(4), number(2));
            case 15, 16 -> call(name, number(name == 15 ? 4 : 7));
            case 17 -> call(name, number(31), number(1));
            case 19 -> call(name, number(255), number(1));
            case 20 -> call(name, number(7), number(6), number(5));
            case 24 -> call(name, number(7), number(5));
            case 25 -> {
                call(name, number(7), number(1));
                for (int i = 0; i < 7; i++) {
                    call(26, i);
                }
            }
            default -> call(name, number(name == 26 ? 17 : 8));
        }
    }

    private int ofGate(int name, int[] n) {
        return switch (name) {
            case 0 -> gate.row(n[0], n[1], n[2]);
            case 1 -> gate.set(n[0], n[1], n[2]);
            case 2 -> gate.copy(n[0], n[1], n[2], n[3], n[4]);
            case 3 -> gate.drop(n[0]);
            case 4 -> gate.feed(n[0]);
            case 5 -> gate.hedge();
            case 6 -> gate.fault();
            case 7 -> gate.asks(n[0], n[1]);
            case 8 -> gate.follows(n[0]);
            case 9 -> gate.waits(n[0]);
            case 10 -> gate.undo();
            case 11 -> gate.word(n[0], n[1]);
            case 12 -> gate.traveller(n[0], n[1]);
            case 13 -> gate.can(n[0]);
            case 14 -> gate.soon(n[0]);
            case 15 -> gate.plan(n[0]);
            case 16 -> gate.talk(n[0]);
            case 17 -> gate.family(n[0], n[1]);
            case 18 -> gate.ban(n[0]);
            case 19 -> gate.who(n[0], n[1]);
            case 20 -> gate.goneBy(n[0], n[1], n[2]);
            case 21 -> gate.image(n[0]);
            case 22 -> gate.restore(n[0]);
            case 23 -> gate.kind(n[0]);
            case 24 -> gate.as(n[0], n[1]);
            case 25 -> gate.ask(n[0], n[1]);
            case 26 -> gate.trace(n[0]);
            case 27 -> gate.count(n[0]);
            default -> gate.status();
        };
    }

    private int ofOracle(int name, int[] n) {
        return switch (name) {
            case 0 -> oracle.row(n[0], n[1], n[2]);
            case 1 -> oracle.set(n[0], n[1], n[2]);
            case 2 -> oracle.copy(n[0], n[1], n[2], n[3], n[4]);
            case 3 -> oracle.drop(n[0]);
            case 4 -> oracle.feed(n[0]);
            case 5 -> oracle.hedge();
            case 6 -> oracle.fault();
            case 7 -> oracle.asks(n[0], n[1]);
            case 8 -> oracle.follows(n[0]);
            case 9 -> oracle.waits(n[0]);
            case 10 -> oracle.undo();
            case 11 -> oracle.word(n[0], n[1]);
            case 12 -> oracle.traveller(n[0], n[1]);
            case 13 -> oracle.can(n[0]);
            case 14 -> oracle.soon(n[0]);
            case 15 -> oracle.plan(n[0]);
            case 16 -> oracle.talk(n[0]);
            case 17 -> oracle.family(n[0], n[1]);
            case 18 -> oracle.ban(n[0]);
            case 19 -> oracle.who(n[0], n[1]);
            case 20 -> oracle.goneBy(n[0], n[1], n[2]);
            case 21 -> oracle.image(n[0]);
            case 22 -> oracle.restore(n[0]);
            case 23 -> oracle.kind(n[0]);
            case 24 -> oracle.as(n[0], n[1]);
            case 25 -> oracle.ask(n[0], n[1]);
            case 26 -> oracle.trace(n[0]);
            case 27 -> oracle.count(n[0]);
            default -> oracle.status();
        };
    }
}
