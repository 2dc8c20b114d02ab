/** Counts the answers that are not the ones that are due, and feeds texts. */
final class Check {
    private final String name;
    private int asked = 0;
    private int wrong = 0;

    Check(String name) {
        this.name = name;
    }

    void due(String call, long got, long want) {
        asked++;
        if (got != want) {
            wrong++;
            System.out.println(name + ": " + call + " answered " + got + ", due is " + want);
        }
    }

    void holds(String what, boolean so) {
        due(what, so ? 1 : 0, 1);
    }

    /** Ends the program with exit code 1 if an answer was wrong. */
    void end() {
        System.out.println(name + ": " + asked + " answers, " + wrong + " wrong");
        if (wrong != 0 || asked == 0) {
            System.exit(1);
        }
    }

    static void feed(HedgeGate gate, String text) {
        for (int i = 0; i < text.length(); i++) {
            gate.feed(text.charAt(i));
        }
    }

    static int read(HedgeGate gate, String text) {
        feed(gate, text);
        return gate.hedge();
    }

    /** A new gate with a hedge that must be sound. */
    static HedgeGate gate(String text) {
        HedgeGate gate = new HedgeGate();
        int read = read(gate, text);
        if (read < 0) {
            throw new IllegalStateException("the test's text is refused: " + text + " " + read);
        }
        return gate;
    }
}
