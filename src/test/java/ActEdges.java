/** The edges of promises 9 to 14, and of what the Terms tell of words and acts. */
final class ActEdges {
    private static final int NONE = HedgeGate.NONE, BAD = HedgeGate.BAD, STATE = HedgeGate.STATE;
    private static final int FULL = HedgeGate.FULL;
    private static final int MAX = Integer.MAX_VALUE, MIN = Integer.MIN_VALUE;
    private static final String OPEN = ",15,15,15,15;";

    private final Edges e;

    ActEdges(Edges edges) {
        e = edges;
    }

    void go() {
        wornWords();
        wornEchoes();
        wornFromTheLatestOn();
        neverWorn();
        nothingAskedSoFar();
        behindTheLastCase();
        echoes();
        theHourMore();
        followersMore();
        keptActs();
        asking();
        refusedAsks();
        following();
        waiting();
        undoing();
        undoingEachKindOfAct();
        toldOfWords();
        toldOfTravellers();
    }

    /** Waits for as long as it takes, by acts of 24 hours at most. */
    private static void waitTill(HedgeGate x, int hour) {
        for (int n = 0; n < 50 && x.count(3) < hour; n++) {
            x.waits(Math.min(hour - x.count(3), 24));
        }
    }

    private void wornWords() {
        e.sentence(Edges.TERMS, "A WORD is WORN in an HOUR, if it was ASKED less than MEMORY HOURS ago");
        for (int memory = 1; memory <= 24; memory++) {
            for (String sort : new String[] {"p", "i"}) {
                HedgeGate x = Check.gate("h" + memory + OPEN + sort + "0;t1;t1;");
                x.waits(3);
                e.due("asked in hour 3", x.asks(0, 0), 4);
                if (memory > 1) {
                    e.due("worn at once", x.word(0, 3), 0);
                    waitTill(x, 3 + memory - 1);
                    e.due("worn in the last hour", x.word(0, 3), 0);
                    e.due("none can", x.can(1), 0);
                    e.due("none asks", x.asks(1, 0), STATE);
                    x.waits(1);
                }
                e.due("forgotten in hour " + (3 + memory), x.word(0, 3), 1);
                e.due("one can", x.can(1), 1);
                e.due("one asks", x.asks(1, 0), 3 + memory + 1);
            }
        }
    }

    /** Another word has to be asked ahead of an echo's second time, so that its case is not the last one. */
    private void wornEchoes() {
        for (int memory = 1; memory <= 24; memory++) {
            HedgeGate x = Check.gate("h" + memory + OPEN + "e1;f0;t1;t2;t1;");
            x.asks(0, 0);
            x.asks(1, 1);
            if (memory > 2) {
                waitTill(x, memory - 1);
                e.due("an echo worn in the last hour", x.can(2), 0);
                x.waits(1);
            }
            e.due("an echo forgotten", x.can(2), 1);
        }
    }

    private void wornFromTheLatestOn() {
        HedgeGate x = Check.gate("h3" + OPEN + "p0;t1;t1;t1;");
        x.asks(0, 0);
        x.waits(2);
        x.asks(1, 0);
        e.due("worn anew", x.can(2), 0);
        x.waits(1);
        e.due("worn 5 hours behind the first time", x.can(2), 0);
        x.waits(1);
        e.due("forgotten", x.can(2), 1);
    }

    private void neverWorn() {
        e.sentence(Edges.TERMS, "a foreign one, a no never is");
        for (int memory : new int[] {1, 2, 24}) {
            HedgeGate x = Check.gate("h" + memory + OPEN + "f0;n0;t3;t3;t3;t3;t3;");
            e.due("foreign", x.asks(0, 0), 1);
            e.due("at once", x.word(0, 3), 1);
            e.due("again", x.asks(1, 0), 2);
            e.due("a no", x.asks(2, 1), 4);
            e.due("at once", x.word(1, 3), 1);
            e.due("again", x.asks(3, 1), 6);
            e.due("a third time", x.asks(4, 1), 8);
            e.due("asked", x.word(1, 2), 3);
        }
    }

    private void nothingAskedSoFar() {
        e.sentence(Edges.TERMS, "nothing was ASKED so far");
        HedgeGate x = Check.gate("h24,0,0,0,0;p0;i1;e2;f3;n0;e1;e0;e3;t255;t255;");
        for (int hour = 0; hour < 3; hour++) {
            for (int w = 0; w < 8; w++) {
                e.due("word " + w + " in hour " + hour, x.word(w, 3), 1);
            }
            e.due("all can be asked", x.can(0), 255);
            x.waits(1);
        }
        x.asks(0, 2);
        e.due("behind it none", x.can(1), 0);
        x.undo();
        e.due("undone: nothing was asked", x.can(1), 255);
        x.image(0);
        x.asks(0, 2);
        x.restore(0);
        e.due("restored: nothing was asked", x.can(1), 255);
    }

    private void behindTheLastCase() {
        e.sentence(Edges.TERMS, "its CASE is in BEHIND of the CASE that was ASKED last");
        // 0 is followed by 1, 1 by 2, 2 by 3, 3 by 0
        HedgeGate x = Check.gate("h1,2,4,8,1;p0;p1;p2;p3;t15;t15;t15;t15;t15;");
        int[] behind = {2, 4, 8, 1};
        for (int t = 0; t < 4; t++) {
            e.due("word " + t, x.asks(t, t), t + 1);
            e.due("last", x.count(4), t);
            e.due("behind it", x.can(4), behind[t]);
        }
        e.due("not the one of two ago", x.asks(4, 3), STATE);
        x.waits(24);
        e.due("hours change no case", x.can(4), 1);
        e.due("back to 0", x.asks(4, 0), 29);
    }

    private void echoes() {
        e.sentence(Edges.TERMS, "an echo only if its CASE is not that CASE");
        for (int c = 0; c < 4; c++) {
            HedgeGate x = Check.gate("h1" + OPEN + "f" + c + ";e0;e1;e2;e3;p" + c + ";t63;t63;t63;");
            e.due("all may be first", x.can(0), 63);
            x.asks(0, 0);
            e.due("echoes of other cases, and all others", x.can(1), 63 & ~(2 << c));
            int other = (c + 1) % 4;
            x.asks(1, 1 + other);
            e.due("an echo behind an echo", x.can(2), 63 & ~(2 << other));
        }
        HedgeGate y = Check.gate("h1,4,15,15,15;f0;e0;e1;e2;t15;t15;");
        y.asks(0, 0);
        e.due("an echo whose case is not behind that may not, either", y.can(1), 8);
    }

    private void theHourMore() {
        e.sentence(Edges.TERMS, "the HOUR is 1 more, by a no 2 more (it was ASKED in the HOUR in which the TRAVELLER came)");
        HedgeGate x = Check.gate("h1" + OPEN + "p0;i1;e2;f3;n0;t1;t2;t4;t8;t16;");
        for (int w = 0; w < 5; w++) {
            e.due("word " + w, x.asks(w, w), w < 4 ? w + 1 : 6);
            e.due("asked in hour " + w, x.word(w, 1), w);
            e.due("hour", x.count(3), w < 4 ? w + 1 : 6);
            e.due("one more has passed", x.count(6), w + 1);
        }
    }

    private void followersMore() {
        e.sentence(Edges.TERMS, "by an if one TRAVELLER more may FOLLOW. One FOLLOWS, if one may: it PASSES, without a "
            + "WORD, one less may; the HOUR is 1 more (what was ASKED last stays).");
        HedgeGate x = Check.gate("h1" + OPEN + "p0;i1;e2;f3;n0;t31;t31;t31;t31;t31;");
        for (int w = 0; w < 5; w++) {
            x.asks(0, w);
            e.due("by word " + w, x.count(5), w == 1 ? 1 : 0);
            e.due("one follows behind word " + w, x.follows(1), w == 1 ? 0 : STATE);
            if (w == 1) {
                x.undo();
            }
            x.undo();
        }
        x.asks(3, 1);
        x.asks(1, 1);
        e.due("two may", x.count(5), 2);
        e.due("one follows", x.follows(4), 1);
        e.due("hour", x.count(3), 3);
        e.due("case", x.count(4), 1);
        e.due("no word more is asked", x.word(1, 2), 2);
        e.due("it has passed", x.traveller(4, 1), 1);
        e.due("without a word", x.traveller(4, 2), 8);
        x.asks(0, 3);
        e.due("hours, words leave who may", x.count(5), 1);
        e.due("one follows", x.follows(2), 0);
        e.due("hour", x.count(3), 5);
        e.due("the case asked last stays", x.count(4), 3);
    }

    private void keptActs() {
        e.sentence(Edges.TERMS, "(24 at most are kept, of more the oldest is forgotten; each can be undone, the latest "
            + "first; also such by which nothing becomes another)");
        for (int acts : new int[] {23, 24, 25, 47, 48, 49, 73}) {
            HedgeGate x = Check.gate("h1" + OPEN + "f0;t1;");
            for (int i = 1; i <= acts; i++) {
                x.waits(1 + i % 3);
            }
            int kept = Math.min(acts, 24);
            e.due("of " + acts, x.count(7), kept);
            for (int i = acts; i > acts - kept; i--) {
                int hour = x.count(3);
                e.due("undo of " + acts, x.undo(), kept - (acts - i) - 1);
                e.due("by as many hours", x.count(3), hour - 1 - i % 3);
            }
            e.due("none is left", x.undo(), STATE);
            e.due("those forgotten stay", x.count(3) > 0 ? 1 : 0, acts > 24 ? 1 : 0);
            x.waits(1);
            e.due("one again", x.count(7), 1);
        }
        HedgeGate y = Check.gate("h1" + OPEN + "i0;t1;t1;");
        y.asks(0, 0);
        y.follows(1);
        for (int i = 0; i < 23; i++) {
            y.waits(1);
        }
        for (int i = 0; i < 24; i++) {
            y.undo();
        }
        e.due("the follower is undone", y.traveller(1, 2), NONE);
        e.due("the oldest, a question, is not", y.traveller(0, 2), 0);
        e.due("one may follow", y.count(5), 1);
        e.due("hour", y.count(3), 1);
    }

    private void asking() {
        e.sentence(9, "A TRAVELLER ASKS a WORD: the HOUR then.");
        HedgeGate x = Check.gate("h1" + OPEN + "p0;".repeat(7) + "n3;t255;t255;t255;t255;t128;");
        e.due("the first word", x.asks(0, 0), 1);
        e.due("the last word, the last traveller", x.asks(4, 7), 3);
        e.due("case", x.count(4), 3);
        e.due("acts", x.count(7), 2);
        waitTill(x, 999);
        e.due("beyond hour 999", x.asks(1, 1), 1000);
        e.due("by a no, too", x.asks(2, 7), 1002);
        e.due("asked then", x.word(7, 1), 1000);
    }

    private void refusedAsks() {
        e.sentence(9, "BAD; STATE: it has PASSED, has not that WORD, that MAY not be ASKED.");
        HedgeGate x = Check.gate("h24,1,15,15,15;p0;i0;p1;t3;t5;t7;t7;");
        for (int t : new int[] {-1, 4, 5, MAX, MIN}) {
            e.due("traveller " + t, x.asks(t, 0), BAD);
        }
        for (int w : new int[] {-1, 3, 8, 32, MAX, MIN}) {
            e.due("word " + w, x.asks(0, w), BAD);
        }
        e.due("has not that word", x.asks(0, 2), STATE);
        e.due("has not that word", x.asks(1, 1), STATE);
        e.due("asks", x.asks(0, 1), 1);
        e.due("has passed", x.asks(0, 0), STATE);
        e.due("BAD ahead of STATE: who has passed", x.asks(0, 3), BAD);
        e.due("worn", x.asks(2, 1), STATE);
        e.due("not behind that case", x.asks(2, 2), STATE);
        x.follows(3);
        e.due("has passed by following", x.asks(3, 0), STATE);
        e.due("refused: hour", x.count(3), 2);
        e.due("refused: acts", x.count(7), 2);
        e.due("no hedge", new HedgeGate().asks(0, 0), BAD);
        e.due("a hedge of nobody", Check.gate("h1" + OPEN + "p0;").asks(0, 0), BAD);
    }

    private void following() {
        e.sentence(10, "A TRAVELLER FOLLOWS: how many more may.");
        HedgeGate x = Check.gate("h1" + OPEN + "i0;t1;t1;t1;t1;t1;");
        x.asks(0, 0);
        x.asks(1, 0);
        e.due("one more", x.follows(4), 1);
        e.due("none more", x.follows(3), 0);
        e.due("hour", x.count(3), 4);
        x.undo();
        waitTill(x, 999);
        e.due("beyond hour 999", x.follows(2), 0);
        e.due("hour", x.count(3), 1000);
        e.sentence(10, "BAD; STATE: it has PASSED, nobody may.");
        HedgeGate y = Check.gate("h1" + OPEN + "i0;t1;t1;t1;");
        e.due("nobody may at first", y.follows(0), STATE);
        y.asks(0, 0);
        for (int t : new int[] {-1, 3, 5, MAX, MIN}) {
            e.due("traveller " + t, y.follows(t), BAD);
        }
        e.due("has passed", y.follows(0), STATE);
        e.due("follows", y.follows(1), 0);
        e.due("nobody may any more", y.follows(2), STATE);
        e.due("BAD ahead of STATE", y.follows(3), BAD);
        y.asks(2, 0);
        e.due("one may, but all have passed", y.follows(1), STATE);
        e.due("it still may", y.count(5), 1);
        e.due("no hedge", new HedgeGate().follows(0), BAD);
    }

    private void waiting() {
        e.sentence(11, "n HOURS (1 to 24) are waited: the HOUR.");
        HedgeGate x = Check.gate("h1" + OPEN);
        e.due("1", x.waits(1), 1);
        e.due("24", x.waits(24), 25);
        e.due("hour", x.count(3), 25);
        e.due("acts", x.count(7), 2);
        e.sentence(11, "BAD; STATE: no HEDGE (ahead of BAD); FULL: beyond HOUR 999.");
        for (int n : new int[] {0, -1, 25, MAX, MIN}) {
            e.due("waits " + n, x.waits(n), BAD);
            e.due("no hedge ahead of waits " + n, new HedgeGate().waits(n), STATE);
        }
        e.due("no hedge", new HedgeGate().waits(1), STATE);
        waitTill(x, 975);
        e.due("from 975 by 24", x.waits(24), 999);
        x.undo();
        x.waits(1);
        e.due("from 976 by 24", x.waits(24), FULL);
        e.due("hour", x.count(3), 976);
        e.due("by 23", x.waits(23), 999);
        for (int n = 1; n <= 24; n++) {
            e.due("beyond 999 by " + n, x.waits(n), FULL);
        }
        e.due("BAD ahead of FULL", x.waits(0), BAD);
        e.due("BAD ahead of FULL", x.waits(25), BAD);
        e.due("hour", x.count(3), 999);
        x.undo();
        e.due("undone: not beyond", x.waits(1), 977);
    }

    private void undoing() {
        e.sentence(12, "The latest ACT is undone: how many can be undone yet. STATE: none.");
        e.due("no hedge", new HedgeGate().undo(), STATE);
        HedgeGate x = Check.gate("h9" + OPEN + "i0;n1;t3;t3;t3;");
        e.due("no act yet", x.undo(), STATE);
        x.asks(0, 2);
        x.follows(0);
        x.waits(25);
        e.due("what was refused is no act", x.undo(), STATE);
        x.waits(2);
        x.asks(0, 0);
        x.follows(1);
        e.due("two yet", x.undo(), 2);
        e.due("one yet", x.undo(), 1);
        e.due("none yet", x.undo(), 0);
        e.due("none", x.undo(), STATE);
        e.due("none", x.undo(), STATE);
        x.waits(1);
        Check.read(x, "h1,0,0,0,0;");
        e.due("none of the hedge before", x.undo(), STATE);
        x.waits(1);
        x.image(0);
        x.restore(0);
        e.due("none of before an image", x.undo(), STATE);
    }

    private void undoingEachKindOfAct() {
        HedgeGate x = Check.gate("h3" + OPEN + "i2;n1;t3;t3;t3;t3;");
        java.util.List<java.util.List<Integer>> seen = new java.util.ArrayList<>();
        for (int act = 0; act < 7; act++) {
            seen.add(Look.hedge(x));
            switch (act) {
                case 0 -> e.due("an if", x.asks(0, 0), 1);
                case 1 -> e.due("hours", x.waits(4), 5);
                case 2 -> e.due("an if again", x.asks(1, 0), 6);
                case 3 -> e.due("one follows", x.follows(3), 1);
                case 4 -> e.due("hours", x.waits(24), 31);
                case 5 -> e.due("a no", x.asks(2, 1), 33);
                default -> e.due("hours", x.waits(1), 34);
            }
        }
        for (int act = 6; act >= 0; act--) {
            e.due("undo " + act, x.undo(), act);
            e.holds("all is as it was ahead of act " + act, Look.hedge(x).equals(seen.get(act)));
        }
    }

    private void toldOfWords() {
        e.sentence(13, "Of a WORD: 0 CASE, 1 the HOUR in which it was ASKED last (NONE), 2 how often it was ASKED, "
            + "3 whether it MAY be ASKED now (1, 0). BAD.");
        HedgeGate x = Check.gate("h2" + OPEN + "p3;" + "f0;".repeat(6) + "n2;t129;t129;t129;");
        e.due("case of the first", x.word(0, 0), 3);
        e.due("case of the last", x.word(7, 0), 2);
        for (int w = 0; w < 8; w++) {
            e.due("never asked", x.word(w, 1), NONE);
            e.due("never asked", x.word(w, 2), 0);
            e.due("may", x.word(w, 3), 1);
        }
        x.asks(0, 0);
        e.due("hour 0 is an hour", x.word(0, 1), 0);
        e.due("once", x.word(0, 2), 1);
        e.due("worn", x.word(0, 3), 0);
        x.waits(4);
        x.asks(1, 0);
        e.due("the latest hour", x.word(0, 1), 5);
        e.due("twice", x.word(0, 2), 2);
        for (int what : new int[] {-1, 4, MAX, MIN}) {
            e.due("what " + what, x.word(0, what), BAD);
        }
        for (int w : new int[] {-1, 8, 31, 32, MAX, MIN}) {
            for (int what = 0; what < 4; what++) {
                e.due("word " + w, x.word(w, what), BAD);
            }
        }
        HedgeGate y = Check.gate("h2" + OPEN + "p3;");
        e.due("the second of one", y.word(1, 0), BAD);
        e.due("no hedge", new HedgeGate().word(0, 0), BAD);
    }

    private void toldOfTravellers() {
        e.sentence(14, "Of a TRAVELLER: 0 SET, 1 whether it has PASSED (1, 0), 2 the WORD it ASKED (8: it FOLLOWED; "
            + "NONE: it has not PASSED). BAD.");
        HedgeGate x = Check.gate("h2" + OPEN + "i0;" + "f0;".repeat(6) + "n2;t1;t255;t128;t1;t2;");
        int[] sets = {1, 255, 128, 1, 2};
        for (int t = 0; t < 5; t++) {
            e.due("set", x.traveller(t, 0), sets[t]);
            e.due("not passed", x.traveller(t, 1), 0);
            e.due("by nothing", x.traveller(t, 2), NONE);
        }
        x.asks(0, 0);
        x.asks(2, 7);
        x.follows(4);
        int[] by = {0, NONE, 7, NONE, 8};
        for (int t = 0; t < 5; t++) {
            e.due("set stays", x.traveller(t, 0), sets[t]);
            e.due("passed", x.traveller(t, 1), by[t] == NONE ? 0 : 1);
            e.due("by", x.traveller(t, 2), by[t]);
        }
        for (int what : new int[] {-1, 3, MAX, MIN}) {
            e.due("what " + what, x.traveller(0, what), BAD);
        }
        for (int t : new int[] {-1, 5, 31, 32, MAX, MIN}) {
            for (int what = 0; what < 3; what++) {
                e.due("traveller " + t, x.traveller(t, what), BAD);
            }
        }
        HedgeGate y = Check.gate("h2" + OPEN + "p3;t1;");
        e.due("the second of one", y.traveller(1, 0), BAD);
        e.due("no hedge", new HedgeGate().traveller(0, 0), BAD);
    }
}
