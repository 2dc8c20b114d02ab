/** Promises 23 to 30: images, kinds, asks and their trace, counts, status. */
public final class AskedTest {
    private static final Check CHECK = new Check("asked");
    private static final int NONE = HedgeGate.NONE, BAD = HedgeGate.BAD, STATE = HedgeGate.STATE;
    private static final int KIND = -1000013;

    public static void main(String[] args) {
        keepsImages();
        imagesAreApart();
        tellsKinds();
        takesWordsAsKinds();
        asksByBodies();
        asksAgainLater();
        keepsTheTrace();
        counts();
        CHECK.end();
    }

    private static void keepsImages() {
        HedgeGate x = new HedgeGate();
        CHECK.due("image -1", x.image(-1), BAD);
        CHECK.due("image 2", x.image(2), BAD);
        CHECK.due("image without a hedge", x.image(0), STATE);
        CHECK.due("restore -1", x.restore(-1), BAD);
        CHECK.due("restore 2", x.restore(2), BAD);
        CHECK.due("restore of none", x.restore(1), STATE);
        Check.read(x, "h4,14,5,11,3;p0;i1;t3;t2;");
        x.asks(0, 1);
        CHECK.due("image", x.image(1), 1);
        CHECK.due("acts stay", x.count(7), 1);
        CHECK.due("the other was not kept", x.restore(0), STATE);
        x.waits(2);
        x.follows(1);
        CHECK.due("restore", x.restore(1), 1);
        CHECK.due("hour", x.count(3), 1);
        CHECK.due("case", x.count(4), 1);
        CHECK.due("may follow", x.count(5), 1);
        CHECK.due("passed", x.count(6), 1);
        CHECK.due("no act", x.count(7), 0);
        CHECK.due("no act", x.undo(), STATE);
        CHECK.due("who passed", x.traveller(0, 2), 1);
        CHECK.due("who did not", x.traveller(1, 2), NONE);
        CHECK.due("asked", x.word(1, 1), 0);
        CHECK.due("times", x.word(1, 2), 1);
        x.follows(1);
        CHECK.due("restore once more", x.restore(1), 1);
        CHECK.due("who did not", x.traveller(1, 2), NONE);
    }

    private static void imagesAreApart() {
        HedgeGate x = Check.gate("h2,1,0,0,0;p0;t1;");
        x.row(0, 0, 3);
        x.image(0);
        Check.read(x, "h9,15,15,15,15;f3;n2;t1;t2;t3;");
        x.waits(9);
        x.image(1);
        CHECK.due("restore", x.restore(0), 1);
        CHECK.due("rows stay", x.count(0), 1);
        CHECK.due("words", x.count(1), 1);
        CHECK.due("travellers", x.count(2), 1);
        CHECK.due("hour", x.count(3), 0);
        CHECK.due("kind", x.kind(0), 1);
        x.asks(0, 0);
        CHECK.due("memory", x.word(0, 3), 0);
        x.waits(1);
        CHECK.due("memory, behind", x.word(0, 3), 1);
        CHECK.due("restore", x.restore(1), 1);
        CHECK.due("words", x.count(1), 2);
        CHECK.due("travellers", x.count(2), 3);
        CHECK.due("hour", x.count(3), 9);
        CHECK.due("kind", x.kind(1), 5);
        x.image(0);
        Check.read(x, "h1,0,0,0,0;");
        CHECK.due("an image in place of the one before", x.restore(0), 1);
        CHECK.due("travellers", x.count(2), 3);
        Check.feed(x, "h1");
        x.restore(1);
        CHECK.due("the tape stays", x.count(8), 2);
    }

    private static void tellsKinds() {
        HedgeGate x = Check.gate("h1,0,0,0,0;n0;f0;e0;i0;p0;");
        for (int w = 0; w < 5; w++) {
            CHECK.due("kind " + w, x.kind(w), 5 - w);
        }
        CHECK.due("kind -1", x.kind(-1), BAD);
        CHECK.due("kind 5", x.kind(5), BAD);
        CHECK.due("no hedge", new HedgeGate().kind(0), BAD);
    }

    private static void takesWordsAsKinds() {
        HedgeGate x = Check.gate("h1,0,0,0,0;p0;i0;e0;f0;n0;");
        int[] kinds = {0b000011, 0b000111, 0b001011, 0b010001, 0b110001};
        for (int w = 0; w < 5; w++) {
            for (int k = 0; k < 6; k++) {
                boolean is = (kinds[w] >> k & 1) == 1;
                CHECK.due("word " + w + " as " + k, x.as(w, k), is ? w : KIND);
                CHECK.due("status", x.status(), is ? 0 : 3);
            }
        }
        x.as(0, 5);
        CHECK.due("word -1", x.as(-1, 0), BAD);
        CHECK.due("word 5", x.as(5, 0), BAD);
        CHECK.due("kind -1", x.as(0, -1), BAD);
        CHECK.due("kind 6", x.as(0, 6), BAD);
        CHECK.due("a BAD one leaves status", x.status(), 3);
        x.kind(0);
        x.ask(0, 0);
        CHECK.due("other calls leave it", x.status(), 3);
        CHECK.due("no hedge", new HedgeGate().as(0, 0), BAD);
    }

    private static void asked(HedgeGate x, int word, int what, int answer, int... trace) {
        CHECK.due("ask " + word + " " + what, x.ask(word, what), answer);
        for (int i = 0; i < 18; i++) {
            CHECK.due("trace " + i, x.trace(i), i < trace.length ? trace[i] : NONE);
        }
    }

    private static void asksByBodies() {
        HedgeGate x = Check.gate("h1,15,15,15,15;p3;i2;e1;f3;n2;");
        asked(x, 0, 0, 3, 11, 10, 21, 20);
        asked(x, 0, 1, 3, 21, 20);
        asked(x, 1, 0, -6, 12, 11, 10, 24, 21, 20);
        asked(x, 1, 1, 6, 24, 21, 20);
        asked(x, 2, 0, -997, 11, 10, 22, 21, 20);
        asked(x, 2, 1, -997, 22, 21, 20);
        asked(x, 3, 0, -100, 13, 10);
        asked(x, 3, 1, 103, 23, 20, 13, 10);
        asked(x, 4, 0, -200, 14, 13, 10);
        asked(x, 4, 1, 204, 23, 20, 14, 13, 10);
    }

    private static void asksAgainLater() {
        HedgeGate x = Check.gate("h1,15,15,15,15;p3;i2;e1;f3;n2;t31;t31;t31;t31;t31;");
        for (int w = 0; w < 5; w++) {
            x.asks(w, w);
        }
        asked(x, 0, 0, 4, 11, 10, 21, 20);
        asked(x, 1, 0, -7, 12, 11, 10, 24, 21, 20);
        asked(x, 2, 0, -996, 11, 10, 22, 21, 20);
        asked(x, 3, 0, -99, 13, 10);
        asked(x, 3, 1, 102, 23, 20, 13, 10);
        asked(x, 4, 0, -198, 14, 13, 10);
        asked(x, 4, 1, 202, 23, 20, 14, 13, 10);
        x.undo();
        asked(x, 4, 1, 204, 23, 20, 14, 13, 10);
    }

    private static void keepsTheTrace() {
        HedgeGate x = new HedgeGate();
        CHECK.due("no hedge", x.ask(0, 0), BAD);
        CHECK.due("empty", x.trace(0), NONE);
        Check.read(x, "h1,0,0,0,0;p0;n1;");
        x.ask(0, 1);
        CHECK.due("word 2", x.ask(2, 0), BAD);
        CHECK.due("word -1", x.ask(-1, 0), BAD);
        CHECK.due("what 2", x.ask(0, 2), BAD);
        CHECK.due("what -1", x.ask(0, -1), BAD);
        CHECK.due("it stays", x.trace(0), 21);
        CHECK.due("it stays", x.trace(1), 20);
        CHECK.due("it stays", x.trace(2), NONE);
        CHECK.due("trace -1", x.trace(-1), NONE);
        CHECK.due("trace 16", x.trace(16), NONE);
        CHECK.due("trace most", x.trace(Integer.MAX_VALUE), NONE);
        CHECK.due("trace least", x.trace(Integer.MIN_VALUE), NONE);
        Check.read(x, "h1,0,0,0,0;p0;");
        CHECK.due("a new hedge leaves it", x.trace(0), 21);
    }

    private static void counts() {
        HedgeGate x = Check.gate("h4,14,5,11,3;p0;i1;e2;t3;t6;t4;");
        x.row(1, 0, 0);
        x.row(2, 0, 4);
        x.row(3, 0, 4);
        Check.feed(x, "h999");
        x.waits(20);
        x.asks(0, 1);
        x.asks(2, 2);
        int[] counts = {3, 3, 3, 22, 2, 1, 2, 3, 4};
        for (int what = 0; what < counts.length; what++) {
            CHECK.due("count " + what, x.count(what), counts[what]);
        }
        CHECK.due("count -1", x.count(-1), BAD);
        CHECK.due("count 9", x.count(9), BAD);
        CHECK.due("count least", x.count(Integer.MIN_VALUE), BAD);
    }
}
