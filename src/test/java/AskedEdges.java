import java.util.List;

/** The edges of promises 23 to 30, and of what the Terms tell of kinds and bodies. */
final class AskedEdges {
    private static final int NONE = HedgeGate.NONE, BAD = HedgeGate.BAD, STATE = HedgeGate.STATE;
    private static final int FULL = HedgeGate.FULL;
    private static final int NULL = -1000011, PLACE = -1000012, KIND = -1000013, SIZE = -1000014, STORE = -1000015;
    private static final int MAX = Integer.MAX_VALUE, MIN = Integer.MIN_VALUE;
    private static final String OPEN = ",15,15,15,15;";
    private static final String ALL_SORTS = "h1" + OPEN + "p3;i2;e1;f3;n2;p0;n0;e3;t255;t255;t255;t255;t255;";

    private final Edges e;

    AskedEdges(Edges edges) {
        e = edges;
    }

    void go() {
        images();
        imagesInPlace();
        restored();
        restoredWhole();
        refusedRestores();
        kinds();
        taken();
        sizes();
        marks();
        bodies();
        asks();
        traces();
        counts();
        countsOfEdges();
        status();
    }

    private void images() {
        e.sentence(23, "An IMAGE (0, 1) is kept of the HEDGE: 1. BAD; STATE: no HEDGE.");
        HedgeGate x = new HedgeGate();
        e.due("no hedge", x.image(0), STATE);
        e.due("no hedge", x.image(1), STATE);
        for (int k : new int[] {-1, 2, MAX, MIN}) {
            e.due("image " + k + ", BAD ahead of STATE", x.image(k), BAD);
        }
        Check.read(x, "h1,0,0,0,0;");
        e.due("of a law alone", x.image(0), 1);
        e.due("the other", x.image(1), 1);
        for (int k : new int[] {-1, 2, MAX, MIN}) {
            e.due("image " + k, x.image(k), BAD);
        }
        x.waits(3);
        x.image(0);
        e.due("acts stay", x.count(7), 1);
        e.due("hour stays", x.count(3), 3);
        e.due("undo", x.undo(), 0);
    }

    private void imagesInPlace() {
        HedgeGate x = Check.gate("h1" + OPEN + "f0;t1;");
        x.image(0);
        x.waits(1);
        x.image(1);
        x.waits(1);
        e.due("an image in place of the one before", x.image(0), 1);
        x.waits(1);
        e.due("restored", x.restore(1), 1);
        e.due("the one is as it was", x.count(3), 1);
        e.due("restored", x.restore(0), 1);
        e.due("the other is the later one", x.count(3), 2);
        x.asks(0, 0);
        e.due("restored", x.restore(0), 1);
        e.due("what comes behind leaves an image", x.traveller(0, 1), 0);
        e.due("nor the hour", x.count(3), 2);
    }

    private void restored() {
        e.sentence(24, "The HEDGE is as an IMAGE kept it (no ACT can be undone then): 1.");
        HedgeGate x = Check.gate("h3" + OPEN + "i1;n2;t3;t3;t3;t3;");
        x.asks(0, 0);
        x.asks(1, 1);
        x.follows(2);
        List<Integer> seen = Look.hedge(x);
        x.image(1);
        x.waits(5);
        x.asks(3, 0);
        e.due("restored", x.restore(1), 1);
        e.due("acts", x.count(7), 0);
        e.due("undo", x.undo(), STATE);
        List<Integer> then = Look.hedge(x);
        seen.set(6, 0);
        e.holds("all is as it was, but for the acts: " + then, then.equals(seen));
        x.waits(2);
        e.due("an act behind it can be undone", x.undo(), 0);
        e.due("no other", x.undo(), STATE);
        e.due("hour", x.count(3), 4);
        e.due("restored twice", x.restore(1), 1);
        e.holds("all is as it was", Look.hedge(x).equals(seen));
    }

    private void restoredWhole() {
        HedgeGate x = Check.gate("h2,2,4,8,1;p0;i1;e2;f3;n0;p1;i2;e3;t1;t2;t4;t8;t255;");
        x.row(3, 1, 5);
        List<Integer> large = Look.hedge(x);
        x.image(0);
        Check.read(x, "h24,0,0,0,0;n3;t1;");
        x.asks(0, 0);
        List<Integer> small = Look.hedge(x);
        small.set(6, 0);
        x.image(1);
        Check.feed(x, "h1,");
        e.due("restored", x.restore(0), 1);
        e.holds("a larger one", Look.hedge(x).equals(large));
        e.due("behind case 0", x.asks(4, 0), 1);
        e.due("law", x.can(1), 2);
        e.due("memory", x.soon(1), 1);
        e.due("restored", x.restore(1), 1);
        e.holds("a smaller one", Look.hedge(x).equals(small));
        e.due("rows stay", x.count(0), 1);
        e.due("the tape stays", x.count(8), 3);
        e.due("its bytes, too", x.hedge(), -1000103);
        e.due("a fault leaves the images", x.restore(0), 1);
        e.holds("a larger one", Look.hedge(x).equals(large));
    }

    private void refusedRestores() {
        e.sentence(24, "BAD; STATE: none was kept.");
        HedgeGate x = new HedgeGate();
        for (int k : new int[] {-1, 2, MAX, MIN}) {
            e.due("restore " + k, x.restore(k), BAD);
        }
        e.due("none was kept", x.restore(0), STATE);
        e.due("none was kept", x.restore(1), STATE);
        x.image(0);
        e.due("none could be kept", x.restore(0), STATE);
        Check.read(x, "h1" + OPEN + "f0;t1;");
        e.due("none was kept yet", x.restore(0), STATE);
        x.waits(4);
        x.image(1);
        e.due("not this one", x.restore(0), STATE);
        e.due("it changes nothing", x.count(7), 1);
        e.due("hour", x.count(3), 4);
        e.due("this one", x.restore(1), 1);
        for (int k : new int[] {-1, 2, MAX, MIN}) {
            e.due("restore " + k, x.restore(k), BAD);
        }
    }

    private void kinds() {
        e.sentence(25, "The KIND of a WORD, as told (1 to 5). BAD.");
        HedgeGate x = Check.gate(ALL_SORTS);
        int[] kinds = {1, 2, 3, 4, 5, 1, 5, 3};
        for (int w = 0; w < 8; w++) {
            e.due("word " + w, x.kind(w), kinds[w]);
        }
        for (int w : new int[] {-1, 8, 32, MAX, MIN}) {
            e.due("word " + w, x.kind(w), BAD);
        }
        e.due("the second of one", Check.gate("h1" + OPEN + "p0;").kind(1), BAD);
        e.due("no words", Check.gate("h1" + OPEN).kind(0), BAD);
        e.due("no hedge", new HedgeGate().kind(0), BAD);
    }

    private void taken() {
        e.sentence(Edges.TERMS, "KINDS of WORDS: 0 WORD; 1 PLAIN, a WORD; 2 IF, a PLAIN one; 3 ECHO, a PLAIN one; "
            + "4 FOREIGN, a WORD; 5 NO, a FOREIGN one.");
        HedgeGate x = Check.gate(ALL_SORTS);
        String[] are = {"110000", "111000", "110100", "100010", "100011", "110000", "100011", "110100"};
        for (int w = 0; w < 8; w++) {
            for (int kind = 0; kind < 6; kind++) {
                e.due("word " + w + " as " + kind, x.as(w, kind), are[w].charAt(kind) == '1' ? w : KIND);
            }
        }
        e.sentence(26, "A WORD is taken as one of a KIND (0 .. 5): the WORD's number. BAD; KIND: it is no such one.");
        e.due("the first as the least kind", x.as(0, 0), 0);
        e.due("the last as its own", x.as(7, 3), 7);
        e.due("a no as the most kind", x.as(4, 5), 4);
        e.due("status", x.status(), 0);
        e.due("a foreign one is no no", x.as(3, 5), KIND);
        e.due("status", x.status(), 3);
        for (int kind : new int[] {-1, 6, MAX, MIN}) {
            e.due("kind " + kind, x.as(0, kind), BAD);
        }
        for (int w : new int[] {-1, 8, MAX, MIN}) {
            e.due("word " + w, x.as(w, 0), BAD);
            e.due("word " + w, x.as(w, 5), BAD);
        }
        e.due("BAD leaves status", x.status(), 3);
        e.due("no hedge", new HedgeGate().as(0, 0), BAD);
    }

    private void asked(HedgeGate x, int word, int what, int answer, int... trace) {
        e.due("ask " + word + " " + what, x.ask(word, what), answer);
        for (int i = 0; i < 8; i++) {
            e.due("trace " + i + " of ask " + word + " " + what, x.trace(i), i < trace.length ? trace[i] : NONE);
        }
    }

    private void sizes() {
        e.sentence(Edges.TERMS, "0 SIZE: 10 lent to all WORDS: how often it was ASKED. 11 of PLAIN ones: what 10 gives, and "
            + "MARK. 12 of IFS: 0 less what 11 gives. 13 of FOREIGN ones: what 10 gives, less 100. 14 of NOES: twice what "
            + "13 gives (asked once).");
        HedgeGate x = Check.gate(ALL_SORTS);
        asked(x, 0, 0, 3, 11, 10, 21, 20);
        asked(x, 5, 0, 5, 11, 10, 21, 20);
        asked(x, 1, 0, -6, 12, 11, 10, 24, 21, 20);
        asked(x, 2, 0, -997, 11, 10, 22, 21, 20);
        asked(x, 7, 0, -990, 11, 10, 22, 21, 20);
        asked(x, 3, 0, -100, 13, 10);
        asked(x, 4, 0, -200, 14, 13, 10);
        x.asks(0, 3);
        asked(x, 3, 0, -99, 13, 10);
        x.asks(1, 4);
        x.asks(2, 4);
        asked(x, 4, 0, -196, 14, 13, 10);
        x.asks(3, 1);
        asked(x, 1, 0, -7, 12, 11, 10, 24, 21, 20);
        x.asks(4, 0);
        asked(x, 0, 0, 4, 11, 10, 21, 20);
        x.undo();
        asked(x, 0, 0, 3, 11, 10, 21, 20);
        HedgeGate y = Check.gate("h1" + OPEN + "i0;f0;t1;");
        asked(y, 0, 0, 0, 12, 11, 10, 24, 21, 20);
        y.asks(0, 0);
        asked(y, 0, 0, -1, 12, 11, 10, 24, 21, 20);
    }

    private void marks() {
        e.sentence(Edges.TERMS, "1 MARK: 20 lent to all WORDS: the number. 21 of PLAIN ones: what 20 gives, and CASE. 22 of "
            + "ECHOES: what 21 gives, less 1000. 23 of FOREIGN ones: what 20 gives, less SIZE. 24 of IFS: twice what 21 "
            + "gives (asked once).");
        HedgeGate x = Check.gate(ALL_SORTS);
        asked(x, 0, 1, 3, 21, 20);
        asked(x, 5, 1, 5, 21, 20);
        asked(x, 1, 1, 6, 24, 21, 20);
        asked(x, 2, 1, -997, 22, 21, 20);
        asked(x, 7, 1, -990, 22, 21, 20);
        asked(x, 3, 1, 103, 23, 20, 13, 10);
        asked(x, 4, 1, 204, 23, 20, 14, 13, 10);
        asked(x, 6, 1, 206, 23, 20, 14, 13, 10);
        x.asks(0, 3);
        x.asks(1, 4);
        x.asks(2, 0);
        asked(x, 3, 1, 102, 23, 20, 13, 10);
        asked(x, 4, 1, 202, 23, 20, 14, 13, 10);
        asked(x, 0, 1, 3, 21, 20);
        asked(Check.gate("h1" + OPEN + "e0;"), 0, 1, -1000, 22, 21, 20);
        asked(Check.gate("h1" + OPEN + "p0;"), 0, 1, 0, 21, 20);
    }

    private void bodies() {
        e.sentence(Edges.TERMS, "(Of an ask the BODY told for the KIND begins, else that of the nearest KIND that it is, too, "
            + "else the one that is lent; SIZE, MARK within others are asked of the same WORD anew.)");
        HedgeGate x = Check.gate(ALL_SORTS);
        int[][] first = {{11, 21}, {12, 24}, {11, 22}, {13, 23}, {14, 23}};
        for (int w = 0; w < 5; w++) {
            for (int what = 0; what < 2; what++) {
                x.ask(w, what);
                e.due("what begins of word " + w, x.trace(0), first[w][what]);
            }
        }
        x.ask(2, 0);
        e.due("an echo has the size of plain ones, but its own mark", x.trace(2), 22);
        x.ask(4, 1);
        e.due("a no has the mark of foreign ones, but its own size", x.trace(2), 14);
        x.ask(1, 0);
        e.due("an if has its own mark within", x.trace(3), 24);
        e.sentence(Edges.TERMS, "each of which leaves its number in THE TRACE as it begins (the first 16)");
        // no ask leaves more than these six: all of them are there
        asked(x, 1, 0, -6, 12, 11, 10, 24, 21, 20);
        asked(x, 1, 0, -6, 12, 11, 10, 24, 21, 20);
    }

    private void asks() {
        e.sentence(27, "An ASK (0, 1) of a WORD. BAD (THE TRACE stays then). THE TRACE is empty ahead of it.");
        HedgeGate x = Check.gate(ALL_SORTS);
        asked(x, 1, 0, -6, 12, 11, 10, 24, 21, 20);
        for (int what : new int[] {-1, 2, MAX, MIN}) {
            e.due("what " + what, x.ask(0, what), BAD);
        }
        for (int w : new int[] {-1, 8, MAX, MIN}) {
            e.due("word " + w, x.ask(w, 0), BAD);
            e.due("word " + w, x.ask(w, 1), BAD);
        }
        int[] stays = {12, 11, 10, 24, 21, 20, NONE};
        for (int i = 0; i < 7; i++) {
            e.due("it stays: " + i, x.trace(i), stays[i]);
        }
        asked(x, 3, 0, -100, 13, 10);
        e.due("no hedge", new HedgeGate().ask(0, 0), BAD);
        e.due("no hedge", new HedgeGate().ask(0, 1), BAD);
    }

    private void traces() {
        e.sentence(28, "Number i of THE TRACE; NONE.");
        HedgeGate x = new HedgeGate();
        e.due("no ask yet", x.trace(0), NONE);
        Check.read(x, ALL_SORTS);
        e.due("no ask yet", x.trace(0), NONE);
        x.ask(3, 0);
        e.due("the first", x.trace(0), 13);
        e.due("the last", x.trace(1), 10);
        for (int i : new int[] {2, 3, 15, 16, 17, MAX, -1, MIN}) {
            e.due("number " + i, x.trace(i), NONE);
        }
        x.waits(1);
        x.image(0);
        x.restore(0);
        Check.read(x, "h1,0,0,0,0;");
        e.due("other calls leave it", x.trace(0), 13);
        e.due("other calls leave it", x.trace(1), 10);
    }

    private void counts() {
        e.sentence(29, "How many: 0 ROWS, 1 WORDS, 2 TRAVELLERS, 3 the HOUR, 4 the CASE that was ASKED last (-1: none), 5 who "
            + "may FOLLOW, 6 who have PASSED, 7 ACTS that can be undone, 8 bytes on the tape. BAD.");
        HedgeGate x = new HedgeGate();
        counted(x, 0, 0, 0, 0, -1, 0, 0, 0, 0);
        for (int row = 0; row < 8; row++) {
            x.row(row, 0, 0);
        }
        counted(x, 8, 0, 0, 0, -1, 0, 0, 0, 0);
        Check.read(x, "h1" + OPEN + "i3;".repeat(8) + "t1;t2;t4;t8;t128;");
        counted(x, 8, 8, 5, 0, -1, 0, 0, 0, 0);
        x.drop(3);
        for (int t = 0; t < 5; t++) {
            x.asks(t, t == 4 ? 7 : t);
        }
        Check.feed(x, "12");
        counted(x, 7, 8, 5, 5, 3, 5, 5, 5, 2);
        Check.read(x, "h1,0,0,0,0;");
        counted(x, 7, 8, 5, 5, 3, 5, 5, 5, 0);
        Check.read(x, "h1,0,0,0,0;");
        counted(x, 7, 0, 0, 0, -1, 0, 0, 0, 0);
        for (int what : new int[] {-1, 9, 10, MAX, MIN}) {
            e.due("count " + what, x.count(what), BAD);
            e.due("no hedge: count " + what, new HedgeGate().count(what), BAD);
        }
    }

    private void counted(HedgeGate x, int... want) {
        for (int what = 0; what < want.length; what++) {
            e.due("count " + what, x.count(what), want[what]);
        }
    }

    private void countsOfEdges() {
        HedgeGate x = Check.gate("h1" + OPEN + "i0;f1;t1;t3;t3;");
        x.asks(0, 0);
        counted(x, 0, 2, 3, 1, 0, 1, 1, 1, 0);
        x.follows(2);
        counted(x, 0, 2, 3, 2, 0, 0, 2, 2, 0);
        x.asks(1, 1);
        counted(x, 0, 2, 3, 3, 1, 0, 3, 3, 0);
        x.undo();
        x.undo();
        x.undo();
        counted(x, 0, 2, 3, 0, -1, 0, 0, 0, 0);
        for (int i = 0; i < 30; i++) {
            x.waits(24);
        }
        counted(x, 0, 2, 3, 720, -1, 0, 0, 24, 0);
        for (int i = 0; i < 121; i++) {
            x.feed('x');
        }
        counted(x, 0, 2, 3, 720, -1, 0, 0, 24, 120);
    }

    private void status() {
        e.sentence(30, "Of the latest call with a ROW, or as(), that was not BAD, STATE, FULL: the number of its FINDING; 0: "
            + "it had none, or there was none.");
        HedgeGate x = new HedgeGate();
        e.due("there was none", x.status(), 0);
        x.row(8, 0, 0);
        e.due("BAD alone", x.status(), 0);
        found(x, x.drop(0), NULL, 1);
        x.goneBy(0, 0, 0);
        e.due("STATE leaves it", x.status(), 1);
        found(x, x.row(0, 0, -1), SIZE, 4);
        x.row(0, 0, 41);
        x.set(-1, 0, 0);
        x.copy(0, 0, 8, 0, 0);
        x.drop(8);
        x.as(0, 0);
        e.due("BAD leaves it", x.status(), 4);
        found(x, x.row(0, 0, 2), 2, 0);
        found(x, x.set(0, 2, 0), PLACE, 2);
        found(x, x.set(0, 1, 0), 0, 0);
        found(x, x.set(1, 0, 0), NULL, 1);
        found(x, x.row(1, 1, 2), 2, 0);
        found(x, x.copy(0, 0, 1, 0, 1), STORE, 5);
        found(x, x.copy(0, 0, 0, 1, 1), 1, 0);
        found(x, x.copy(0, 0, 0, 1, 2), PLACE, 2);
        found(x, x.drop(1), 2, 0);
        found(x, x.copy(0, 0, 1, 0, 1), NULL, 1);
        Check.read(x, Look.TELLING);
        e.due("a hedge leaves it", x.status(), 1);
        found(x, x.goneBy(0, 0, 1), 1, 0);
        found(x, x.goneBy(0, 2, 1), PLACE, 2);
        x.goneBy(0, 0, 6);
        x.goneBy(0, 0, 2);
        e.due("BAD leaves it", x.status(), 2);
        found(x, x.as(0, 4), 0, 0);
        found(x, x.as(0, 1), KIND, 3);
        x.as(0, 6);
        e.due("BAD leaves it", x.status(), 3);
        othersLeaveIt(x);
        found(x, x.goneBy(1, 0, 1), NULL, 1);
    }

    private void found(HedgeGate x, int got, int want, int status) {
        e.due("the call", got, want);
        e.due("status", x.status(), status);
        e.due("status again", x.status(), status);
    }

    private void othersLeaveIt(HedgeGate x) {
        int sum = x.feed('h') + x.hedge() + x.fault() + x.asks(0, 0) + x.follows(1) + x.waits(1) + x.undo();
        sum += x.word(0, 0) + x.traveller(0, 0) + x.can(1) + x.soon(1) + x.plan(-1) + x.talk(-1) + x.family(1, 0);
        sum += x.ban(0) + x.who(1, 0) + x.image(0) + x.restore(0) + x.kind(0) + x.ask(0, 0) + x.trace(0) + x.count(0);
        for (int i = 0; i < 42; i++) {
            sum += x.waits(24);
        }
        e.due("FULL of another call", x.waits(24), FULL);
        e.due("calls without a row leave it " + (sum != 0), x.status(), 3);
    }
}
