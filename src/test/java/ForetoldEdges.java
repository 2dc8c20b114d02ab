/** The edges of promises 15 to 22, and of what the Terms foretell. */
final class ForetoldEdges {
    private static final int NONE = HedgeGate.NONE, BAD = HedgeGate.BAD, STATE = HedgeGate.STATE;
    private static final int NULL = -1000011, PLACE = -1000012;
    private static final int MAX = Integer.MAX_VALUE, MIN = Integer.MIN_VALUE;
    private static final String OPEN = ",15,15,15,15;";

    private final Edges e;

    ForetoldEdges(Edges edges) {
        e = edges;
    }

    void go() {
        can();
        soon();
        soonest();
        planOfAll();
        planWithoutWaiting();
        planOfTheLeastHour();
        planFirstOfSeveral();
        planOnFromAlike();
        planSteps();
        planRefused();
        talk();
        talkRefused();
        family();
        ban();
        who();
        goneBy();
        goneByRefused();
    }

    private void can() {
        e.sentence(Edges.TERMS, "CAN: WORDS (bits) by which a TRAVELLER who has not PASSED can PASS now, if it ASKS.");
        HedgeGate x = Check.gate("h9,1,15,15,15;i0;p0;p1;f0;" + "f1;".repeat(3) + "f0;t255;t255;t6;t1;t128;");
        e.due("all eight", x.can(0), 255);
        e.due("the last alone", x.can(4), 128);
        x.asks(0, 0);
        e.due("not what is worn, nor of another case", x.can(1), 138);
        e.due("one of its own", x.can(2), 2);
        e.due("none, though it may follow", x.can(3), 0);
        e.sentence(15, "CAN. BAD; STATE: it has PASSED.");
        for (int t : new int[] {-1, 5, 31, 32, MAX, MIN}) {
            e.due("traveller " + t, x.can(t), BAD);
        }
        e.due("has passed", x.can(0), STATE);
        x.follows(3);
        e.due("has passed by following", x.can(3), STATE);
        e.due("no hedge", new HedgeGate().can(0), BAD);
        e.due("the second of one", Check.gate("h1" + OPEN + "p0;t1;").can(1), BAD);
    }

    private void soon() {
        e.sentence(16, "SOON; NONE. BAD; STATE: it has PASSED.");
        HedgeGate x = Check.gate("h9,1,0,15,15;i0;p1;t1;t1;t2;t2;");
        for (int t : new int[] {-1, 4, 31, 32, MAX, MIN}) {
            e.due("traveller " + t, x.soon(t), BAD);
        }
        e.due("now", x.soon(3), 0);
        x.asks(0, 0);
        e.due("soon", x.soon(1), 9);
        e.due("never behind that case", x.soon(2), NONE);
        e.due("has passed", x.soon(0), STATE);
        x.follows(3);
        e.due("has passed by following", x.soon(3), STATE);
        e.due("no hedge", new HedgeGate().soon(0), BAD);
    }

    private void soonest() {
        e.sentence(Edges.TERMS, "SOON: the first HOUR, from this one to 48 later, in which it CAN, if nobody ASKS till "
            + "then; NONE.");
        for (int memory = 1; memory <= 24; memory++) {
            HedgeGate x = Check.gate("h" + memory + OPEN + "p0;t1;t1;");
            x.waits(5);
            x.asks(0, 0);
            for (int hour = 6; hour <= 5 + memory + 1; hour++) {
                e.due("memory " + memory + " in hour " + hour, x.soon(1), Math.max(hour, 5 + memory));
                x.waits(1);
            }
        }
        HedgeGate y = Check.gate("h24" + OPEN + "p0;p0;t1;t2;t3;t1;t2;");
        y.asks(0, 0);
        y.waits(7);
        y.asks(1, 1);
        e.due("by the word asked first", y.soon(2), 24);
        e.due("by word 0", y.soon(3), 24);
        e.due("by word 1", y.soon(4), 32);
        e.due("the latest that may be: 23 hours on", y.count(3) + 23, 32);
        HedgeGate z = Check.gate("h24" + OPEN + "p0;t1;t1;");
        for (int i = 0; i < 41; i++) {
            z.waits(24);
        }
        z.waits(15);
        e.due("in hour 999", z.soon(0), 999);
        z.asks(0, 0);
        e.due("beyond hour 999", z.soon(1), 1023);
        HedgeGate v = Check.gate("h24" + OPEN + "e0;e0;t1;t3;");
        v.asks(0, 0);
        e.due("an echo behind its own case never can", v.soon(1), NONE);
    }

    private void plan(String told, HedgeGate x, int hour, int... steps) {
        e.due(told + ": hour", x.plan(-1), hour);
        for (int k = 0; k < 5; k++) {
            e.due(told + ": step " + k, x.plan(k), k < steps.length ? steps[k] : NONE);
        }
    }

    private void planOfAll() {
        e.sentence(Edges.TERMS, "PLAN: a row of all who have not PASSED, each with a WORD it ASKS, or FOLLOWS (8)");
        plan("nobody at all", Check.gate("h1,0,0,0,0;"), 0);
        HedgeGate x = Check.gate("h1" + OPEN + "i0;t1;t1;t1;t1;t1;");
        plan("five", x, 5, 0, 16, 32, 48, 64);
        x.asks(1, 0);
        plan("four are left", x, 5, 0, 32, 48, 64);
        x.follows(4);
        plan("three are left", x, 5, 0, 32, 48);
        x.asks(0, 0);
        x.asks(2, 0);
        x.waits(3);
        plan("one is left", x, 8, 48);
        x.asks(3, 0);
        plan("nobody is left", x, 8);
        HedgeGate y = Check.gate("h24,0,0,0,0;i0;t1;t1;");
        plan("one follows", y, 2, 0, 24);
        plan("one cannot, so none is planned", Check.gate("h24,0,0,0,0;i0;t1;t1;t1;"), NONE);
    }

    private void planWithoutWaiting() {
        e.sentence(Edges.TERMS, "one behind another without waiting");
        HedgeGate x = Check.gate("h2" + OPEN + "p0;t1;t1;");
        plan("the word is worn", x, NONE);
        x.asks(0, 0);
        plan("it still is", x, NONE);
        x.waits(1);
        plan("it is not any more", x, 3, 16);
        plan("another word gives the hour", Check.gate("h2" + OPEN + "p0;f0;t1;t2;t1;"), 3, 0, 17, 32);
        plan("a no gives two", Check.gate("h3" + OPEN + "p0;n0;t1;t2;t1;"), 4, 0, 17, 32);
        plan("two are not three", Check.gate("h4" + OPEN + "p0;n0;t1;t2;t1;"), NONE);
        plan("following gives one", Check.gate("h2,1,0,0,0;i0;p1;t1;t2;t1;"), 3, 0, 24, 32);
    }

    private void planOfTheLeastHour() {
        e.sentence(Edges.TERMS, "by which the HOUR behind the last one is least");
        plan("following takes less than a no", Check.gate("h9" + OPEN + "i0;n0;t1;t2;"), 2, 0, 24);
        plan("a later word takes less", Check.gate("h9" + OPEN + "n0;f0;t3;t2;"), 2, 1, 17);
        plan("a later order takes less", Check.gate("h9,15,2,2,15;n0;p1;p2;t3;t4;"), 2, 18, 1);
        plan("all by noes", Check.gate("h9" + OPEN + "n0;t1;t1;t1;t1;t1;"), 10, 0, 16, 32, 48, 64);
        plan("two ifs for two noes", Check.gate("h9" + OPEN + "i0;i1;n2;t1;t2;t4;t4;t4;"), 6, 0, 17, 34, 56, 72);
    }

    private void planFirstOfSeveral() {
        e.sentence(Edges.TERMS, "of several the first (step by step: of each the TRAVELLER, then the WORD, 8 last)");
        plan("the first words", Check.gate("h1" + OPEN + "f0;f0;t3;t3;"), 2, 0, 16);
        plan("8 behind all words", Check.gate("h1" + OPEN + "i0;" + "f0;".repeat(7) + "t1;t128;"), 2, 0, 23);
        // traveller 1 can only follow, 2 could ask ahead of it
        HedgeGate x = Check.gate("h9,2,0,0,0;i0;p1;t1;t1;t2;");
        x.asks(0, 0);
        plan("the traveller ahead of the word", x, 3, 24, 33);
        plan("the later word first", Check.gate("h9,0,1,0,0;p0;p1;t3;t1;"), 2, 1, 16);
        plan("the later traveller first", Check.gate("h1,15,15,15,0;f3;f0;t1;t2;"), 2, 17, 0);
        plan("the last word of the last traveller first",
            Check.gate("h1,0,15,15,0;f3;f1;t1;t1;t3;"), NONE);
    }

    /** Ways that have come to the same place by other words go on otherwise. */
    private void planOnFromAlike() {
        plan("by another case", Check.gate("h1,0,4,0,0;p0;p1;p2;t3;t4;"), 2, 1, 18);
        plan("by one who may follow", Check.gate("h1,0,0,0,0;p0;i0;p1;t3;t4;"), 2, 1, 24);
        plan("by a word that is not worn", Check.gate("h2,1,0,0,0;p0;p0;t3;t1;"), 2, 1, 16);
        plan("by an hour less", Check.gate("h1" + OPEN + "n0;f0;t3;t2;"), 2, 1, 17);
        HedgeGate x = Check.gate("h1,0,4,0,0;p0;p1;p2;t3;t4;");
        plan("a plan", x, 2, 1, 18);
        x.asks(0, 0);
        plan("none behind word 0", x, NONE);
        x.undo();
        plan("the plan again", x, 2, 1, 18);
        x.asks(0, 1);
        plan("its second step", x, 2, 18);
        Check.read(x, "h1,0,0,0,0;p0;p1;p2;t3;t4;");
        plan("none by another law", x, NONE);
        Check.read(x, "h1,0,4,0,0;p0;p1;p2;t3;t4;");
        x.waits(24);
        plan("the plan, a day on", x, 26, 1, 18);
    }

    private void planSteps() {
        e.sentence(Edges.TERMS, "that HOUR; the k-th step (16 times the TRAVELLER, and the WORD); NONE.");
        plan("the largest steps", Check.gate("h9" + OPEN + "i0;".repeat(7) + "f0;t1;t2;t4;t8;t128;"),
            5, 0, 17, 34, 51, 71);
        HedgeGate x = Check.gate("h24" + OPEN + "i0;p0;t1;t1;t1;t1;t1;");
        plan("none", x, NONE);
        HedgeGate y = Check.gate("h24" + OPEN + "i0;i0;i0;t1;t2;t4;t1;t1;");
        plan("the largest of all", y, 5, 0, 17, 34, 56, 72);
        HedgeGate z = Check.gate("h1" + OPEN + "n0;t1;");
        for (int i = 0; i < 41; i++) {
            z.waits(24);
        }
        z.waits(15);
        plan("beyond hour 999", z, 1001, 0);
    }

    private void planRefused() {
        e.sentence(17, "PLAN: the HOUR (k = -1), the k-th step (0 to 4; NONE: there are not so many); NONE. BAD; STATE: "
            + "no HEDGE (ahead of BAD).");
        HedgeGate x = Check.gate("h1" + OPEN + "f0;t1;t1;t1;t1;t1;");
        e.due("hour", x.plan(-1), 5);
        e.due("the first step", x.plan(0), 0);
        e.due("the last step", x.plan(4), 64);
        x.asks(4, 0);
        e.due("not so many", x.plan(4), NONE);
        e.due("the last one now", x.plan(3), 48);
        HedgeGate none = Check.gate("h9" + OPEN + "p0;t1;t1;");
        for (int k = -1; k <= 4; k++) {
            e.due("none " + k, none.plan(k), NONE);
            e.due("no hedge " + k, new HedgeGate().plan(k), STATE);
        }
        for (int k : new int[] {-2, 5, MAX, MIN}) {
            e.due("plan " + k, x.plan(k), BAD);
            e.due("no plan, BAD all the same " + k, none.plan(k), BAD);
            e.due("no hedge ahead of BAD " + k, new HedgeGate().plan(k), STATE);
        }
    }

    private void talk(String told, HedgeGate x, int... words) {
        e.due(told + ": how many", x.talk(-1), words.length);
        for (int k = 0; k < 8; k++) {
            e.due(told + ": word " + k, x.talk(k), k < words.length ? words[k] : NONE);
        }
    }

    private void talk() {
        e.sentence(Edges.TERMS, "TALK: the longest row of unlike WORDS, each of which MAY be ASKED behind the one ahead "
            + "of it (the first as it is now), all in this HOUR (those WORN now may not); of several the first: how "
            + "many; the k-th.");
        talk("no words", Check.gate("h1" + OPEN));
        talk("one", Check.gate("h1,0,0,0,0;n0;"), 0);
        talk("each once, though never worn", Check.gate("h1" + OPEN + "f0;n0;"), 0, 1);
        talk("eight", Check.gate("h24" + OPEN + "n0;".repeat(8)), 0, 1, 2, 3, 4, 5, 6, 7);
        talk("eight the other way", Check.gate("h1,0,1,2,4;p0;p1;p2;p3;"), 3, 2, 1, 0);
        talk("the first word is not the longest", Check.gate("h1,0,1,0,0;p0;p1;"), 1, 0);
        talk("of several the first", Check.gate("h1,0,1,0,0;p0;p0;p1;p1;"), 2, 0);
        talk("of several the first in its second word", Check.gate("h1,6,0,0,0;p0;p1;p2;"), 0, 1);
        talk("an echo not behind its case", Check.gate("h1" + OPEN + "e0;e0;"), 0);
        talk("parted by another", Check.gate("h1" + OPEN + "e0;e0;p1;"), 0, 2, 1);
        HedgeGate x = Check.gate("h3" + OPEN + "p0;p0;i0;e1;f0;n0;t63;t63;t63;t63;");
        x.asks(0, 0);
        talk("one is worn", x, 1, 2, 3, 4, 5);
        x.asks(1, 1);
        talk("two are worn", x, 2, 3, 4, 5);
        x.asks(2, 2);
        talk("the first is forgotten", x, 0, 3, 4, 5);
        x.asks(3, 4);
        talk("a foreign one never is", x, 0, 1, 3, 4, 5);
        HedgeGate y = Check.gate("h2,0,15,0,0;p0;p1;t1;t2;");
        y.asks(0, 0);
        talk("nothing may come now", y);
        y.waits(24);
        talk("nor later", y);
        HedgeGate z = Check.gate("h9,15,15,15,15;p0;p1;t1;t2;");
        z.asks(0, 0);
        z.asks(1, 1);
        talk("all are worn", z);
        HedgeGate v = Check.gate("h1,2,1,0,0;f0;f1;t3;");
        v.asks(0, 0);
        talk("the first as it is now", v, 1, 0);
        talkOfHedgesInTurn();
    }

    /** What was found for one hedge is nothing to the next. */
    private void talkOfHedgesInTurn() {
        HedgeGate x = Check.gate("h1" + OPEN + "f0;".repeat(8));
        talk("eight", x, 0, 1, 2, 3, 4, 5, 6, 7);
        Check.read(x, "h1" + OPEN + "p0;p1;p2;");
        talk("three behind eight", x, 0, 1, 2);
        Check.read(x, "h1,0,0,0,0;p0;p0;");
        talk("one of two", x, 0);
        Check.read(x, "h1" + OPEN);
        talk("none", x);
        Check.read(x, "h9" + OPEN + "p0;p1;t1;");
        x.asks(0, 0);
        talk("one is worn", x, 1);
        x.undo();
        talk("none is worn", x, 0, 1);
    }

    private void talkRefused() {
        e.sentence(18, "TALK: how many (k = -1), the k-th (0 to 7; NONE: there are not so many). BAD; STATE: no HEDGE "
            + "(ahead of BAD).");
        HedgeGate x = Check.gate("h1" + OPEN + "f0;".repeat(8));
        e.due("how many", x.talk(-1), 8);
        e.due("the first", x.talk(0), 0);
        e.due("the last", x.talk(7), 7);
        HedgeGate seven = Check.gate("h1" + OPEN + "f0;".repeat(7));
        e.due("how many", seven.talk(-1), 7);
        e.due("the last", seven.talk(6), 6);
        e.due("not so many", seven.talk(7), NONE);
        for (int k : new int[] {-2, 8, MAX, MIN}) {
            e.due("talk " + k, x.talk(k), BAD);
            e.due("no words, BAD all the same " + k, Check.gate("h1" + OPEN).talk(k), BAD);
            e.due("no hedge ahead of BAD " + k, new HedgeGate().talk(k), STATE);
        }
        e.due("no hedge", new HedgeGate().talk(-1), STATE);
    }

    private void familyIs(HedgeGate x, int set, int words) {
        e.due("family " + set, x.family(set, 0), Integer.bitCount(words));
        e.due("which " + set, x.family(set, 1), words);
    }

    private void family() {
        e.sentence(Edges.TERMS, "FAMILY of a set of TRAVELLERS (of none: 0 WORDS): the fewest WORDS so that each of these "
            + "has one of them: how many; which (bits), of several the least.");
        familyIs(Check.gate("h1,0,0,0,0;"), 0, 0);
        HedgeGate x = Check.gate("h1,0,0,0,0;" + "p0;".repeat(8) + "t3;t5;t10;t12;t128;");
        familyIs(x, 0, 0);
        familyIs(x, 1, 1);
        familyIs(x, 16, 128);
        familyIs(x, 3, 1);
        // 9 serves them, too, but 6 is less
        familyIs(x, 15, 6);
        familyIs(x, 31, 134);
        x.asks(0, 0);
        familyIs(x, 1, 1);
        familyIs(Check.gate("h1,0,0,0,0;" + "p0;".repeat(8) + "t1;t2;t4;t8;t128;"), 31, 143);
        familyIs(Check.gate("h1,0,0,0,0;p0;t1;t1;t1;t1;t1;"), 31, 1);
        familyIs(Check.gate("h1,0,0,0,0;p0;p0;t1;t2;"), 3, 3);
        e.sentence(19, "FAMILY: how many (what = 0), which (1). BAD: no set of TRAVELLERS, what; STATE: no HEDGE (ahead "
            + "of BAD).");
        for (int travellers = 0; travellers <= 5; travellers++) {
            HedgeGate y = Check.gate("h1,0,0,0,0;p0;p0;" + "t2;".repeat(travellers));
            int all = (1 << travellers) - 1;
            familyIs(y, all, all == 0 ? 0 : 2);
            for (int set : new int[] {-1, all + 1, MAX, MIN}) {
                e.due("set " + set, y.family(set, 0), BAD);
                e.due("set " + set, y.family(set, 1), BAD);
            }
        }
        for (int what : new int[] {-1, 2, MAX, MIN}) {
            e.due("what " + what, x.family(1, what), BAD);
            e.due("no hedge ahead of BAD", new HedgeGate().family(0, what), STATE);
        }
        e.due("no hedge ahead of BAD", new HedgeGate().family(-1, 0), STATE);
        e.due("no hedge", new HedgeGate().family(0, 0), STATE);
    }

    private void banIs(HedgeGate x, int word, int can) {
        e.due("ban", x.ban(0), word);
        e.due("can then", x.ban(1), can);
    }

    private void ban() {
        e.sentence(Edges.TERMS, "BAN: the WORD by whose ban fewest who have not PASSED CAN PASS now, of several the first; "
            + "how many; NONE: there are no WORDS.");
        banIs(Check.gate("h1" + OPEN), NONE, NONE);
        banIs(Check.gate("h1" + OPEN + "p0;p0;"), 0, 0);
        banIs(Check.gate("h1" + OPEN + "p0;p0;t3;t3;"), 0, 2);
        banIs(Check.gate("h1" + OPEN + "p0;p0;p0;t1;t2;t4;"), 0, 2);
        banIs(Check.gate("h1" + OPEN + "p0;".repeat(8) + "t128;t128;t255;t64;t128;"), 7, 2);
        banIs(Check.gate("h1" + OPEN + "p0;t1;t1;t1;t1;t1;"), 0, 0);
        HedgeGate x = Check.gate("h9,1,15,15,15;i0;p0;p1;f0;t3;t2;t2;t4;t8;");
        banIs(x, 1, 3);
        x.asks(1, 1);
        // word 1 is worn, 2 of a case that may not come: traveller 0 can by 0, 4 by 3
        banIs(x, 0, 1);
        x.asks(0, 0);
        // two may follow or not: by words none but 4 can
        banIs(x, 3, 0);
        x.asks(4, 3);
        banIs(x, 0, 0);
        e.sentence(20, "BAN: the WORD (what = 0), how many CAN then (1); NONE. BAD; STATE: no HEDGE (ahead of BAD).");
        e.due("the word", x.ban(0), 0);
        e.due("how many", x.ban(1), 0);
        for (int what : new int[] {-1, 2, MAX, MIN}) {
            e.due("what " + what, x.ban(what), BAD);
            e.due("no words, BAD all the same", Check.gate("h1" + OPEN).ban(what), BAD);
            e.due("no hedge ahead of BAD", new HedgeGate().ban(what), STATE);
        }
        e.due("no words", Check.gate("h1" + OPEN).ban(0), NONE);
        e.due("no words", Check.gate("h1" + OPEN).ban(1), NONE);
        e.due("no hedge", new HedgeGate().ban(0), STATE);
    }

    private void whoIs(HedgeGate x, int words, int many, int least) {
        e.due("who by " + words, x.who(words, 0), many);
        e.due("the least by " + words, x.who(words, 1), least);
    }

    private void who() {
        e.sentence(Edges.TERMS, "WHO by a set of WORDS (of no WORDS: just nobody, 1): sets of TRAVELLERS (bits; PASSED or "
            + "not) of whom each can have ASKED another one of just these WORDS, all of them: how many; the least; NONE.");
        whoIs(Check.gate("h1,0,0,0,0;"), 0, 1, 0);
        whoIs(Check.gate("h1,0,0,0,0;p0;"), 1, 0, NONE);
        HedgeGate x = Check.gate("h24,0,0,0,0;p0;i0;p1;t1;t3;t6;t1;");
        whoIs(x, 0, 1, 0);
        whoIs(x, 1, 3, 1);
        whoIs(x, 2, 2, 2);
        whoIs(x, 4, 1, 4);
        whoIs(x, 3, 5, 3);
        whoIs(x, 5, 3, 5);
        whoIs(x, 6, 1, 6);
        whoIs(x, 7, 2, 7);
        x.asks(0, 0);
        whoIs(x, 1, 3, 1);
        whoIs(Check.gate("h1,0,0,0,0;p0;p0;t1;t1;"), 3, 0, NONE);
        HedgeGate all = Check.gate("h1,0,0,0,0;" + "p0;".repeat(8) + "t255;".repeat(5));
        whoIs(all, 128, 5, 1);
        whoIs(all, 3, 10, 3);
        whoIs(all, 31, 1, 31);
        whoIs(all, 248, 1, 31);
        whoIs(all, 63, 0, NONE);
        whoIs(all, 255, 0, NONE);
        whoIs(Check.gate("h1,0,0,0,0;p0;p0;p0;p0;p0;t1;t2;t4;t8;t16;"), 16, 1, 16);
        e.sentence(21, "WHO: how many (what = 0), the least (1); NONE. BAD: no set of WORDS, what; STATE: no HEDGE (ahead "
            + "of BAD).");
        for (int words = 0; words <= 8; words++) {
            HedgeGate y = Check.gate("h1,0,0,0,0;" + "p0;".repeat(words) + (words > 0 ? "t1;" : ""));
            int most = (1 << words) - 1;
            whoIs(y, most, words < 2 ? 1 : 0, words < 2 ? words : NONE);
            for (int set : new int[] {-1, most + 1, MAX, MIN}) {
                e.due("set " + set, y.who(set, 0), BAD);
                e.due("set " + set, y.who(set, 1), BAD);
            }
        }
        for (int what : new int[] {-1, 2, MAX, MIN}) {
            e.due("what " + what, x.who(1, what), BAD);
            e.due("no hedge ahead of BAD", new HedgeGate().who(0, what), STATE);
        }
        e.due("no hedge ahead of BAD", new HedgeGate().who(-1, 0), STATE);
        e.due("no hedge", new HedgeGate().who(0, 0), STATE);
    }

    private static HedgeGate told(String text, int... who) {
        HedgeGate x = Check.gate(text);
        x.row(0, 0, 40);
        for (int i = 0; i < who.length; i++) {
            x.set(0, i, who[i]);
        }
        return x;
    }

    private void gone(String text, int ways, int... who) {
        e.due("gone by " + text, told(text, who).goneBy(0, 0, who.length), ways);
    }

    private void goneBy() {
        e.sentence(Edges.TERMS, "GONE BY: a row tells who PASSED one behind another from the beginning on, nobody "
            + "FOLLOWING, nobody waiting: in how many ways, by WORDS, it can have been so.");
        gone("h1,0,0,0,0;", 1);
        gone("h1" + OPEN + "p0;p0;t3;", 2, 0);
        gone("h1" + OPEN + "f0;".repeat(8) + "t255;".repeat(5), 32768, 4, 2, 0, 1, 3);
        gone("h24" + OPEN + "p0;".repeat(8) + "t255;".repeat(5), 6720, 4, 2, 0, 1, 3);
        gone("h1" + OPEN + "p0;t1;t1;", 1, 1, 0);
        gone("h2" + OPEN + "p0;t1;t1;", 0, 1, 0);
        gone("h2" + OPEN + "p0;f0;t1;t1;t2;", 1, 0, 2, 1);
        gone("h3" + OPEN + "p0;f0;t1;t1;t2;", 0, 0, 2, 1);
        gone("h3" + OPEN + "p0;n0;t1;t1;t2;", 1, 0, 2, 1);
        gone("h4" + OPEN + "p0;n0;t1;t1;t2;", 0, 0, 2, 1);
        gone("h2" + OPEN + "i0;t1;t1;", 0, 0, 1);
        gone("h1,2,0,0,0;p0;p1;t3;t3;", 1, 0, 1);
        gone("h1" + OPEN + "e0;e0;p0;t7;t7;", 3, 0, 1);
        gone("h1" + OPEN + "e0;e0;p1;t7;t7;", 5, 0, 1);
        HedgeGate x = told("h5,2,1,0,0;p0;p1;i0;t3;t3;t7;", 0, 1, 2);
        // words 0 1 2 alone: behind 1 0 only 1 may come, and is worn
        e.due("at first", x.goneBy(0, 0, 3), 1);
        x.asks(2, 2);
        x.waits(3);
        x.follows(0);
        e.due("how it stands now is nothing to it", x.goneBy(0, 0, 3), 1);
        e.due("nor who has passed", x.goneBy(0, 0, 2), 2);
    }

    private void goneByRefused() {
        e.sentence(22, "GONE BY by n TRAVELLERS (0 to 5) of a ROW from i on.");
        HedgeGate x = told(Look.TELLING, 9, 4, 3, 2, 1, 0, 9);
        e.due("none", x.goneBy(0, 0, 0), 1);
        e.due("none from the end on", x.goneBy(0, 40, 0), 1);
        e.due("one", x.goneBy(0, 1, 1), 5);
        e.due("five", x.goneBy(0, 1, 5), 120);
        e.due("the last place", x.goneBy(0, 39, 1), 1);
        x.row(1, 1, 0);
        e.due("none of none", x.goneBy(1, 0, 0), 1);
        x.row(2, 2, 1);
        x.set(2, 0, 4);
        e.due("of ints", x.goneBy(2, 0, 1), 5);
        e.sentence(22, "BAD: ROW, n; STATE: no HEDGE (ahead of BAD); NULL; PLACE;");
        for (int row : new int[] {-1, 8, MAX, MIN}) {
            e.due("row " + row, x.goneBy(row, 0, 0), BAD);
            e.due("no hedge ahead of row " + row, new HedgeGate().goneBy(row, 0, 0), STATE);
        }
        for (int n : new int[] {-1, 6, MAX, MIN}) {
            e.due("n " + n, x.goneBy(0, 0, n), BAD);
            e.due("n ahead of NULL " + n, x.goneBy(7, 0, n), BAD);
            e.due("n ahead of PLACE " + n, x.goneBy(0, -1, n), BAD);
            e.due("no hedge ahead of n " + n, new HedgeGate().goneBy(0, 0, n), STATE);
        }
        e.due("no hedge ahead of NULL", new HedgeGate().goneBy(0, 0, 0), STATE);
        e.due("missing", x.goneBy(7, 0, 1), NULL);
        e.due("NULL ahead of PLACE", x.goneBy(7, -1, 1), NULL);
        e.due("status", x.status(), 1);
        int[][] beyond = {{-1, 0}, {-1, 1}, {41, 0}, {40, 1}, {36, 5}, {39, 2}, {MAX, 0}, {MAX, 1}, {MAX, 5}, {MIN, 0},
            {MIN, 5}};
        for (int[] b : beyond) {
            e.due("from " + b[0] + " on " + b[1], x.goneBy(0, b[0], b[1]), PLACE);
            e.due("status", x.status(), 2);
        }
        e.due("one of none", x.goneBy(1, 0, 1), PLACE);
        badItems();
    }

    private void badItems() {
        e.sentence(22, "then BAD: an ITEM that is none of the TRAVELLERS, or told twice.");
        HedgeGate x = told("h1" + OPEN + "f0;t1;t1;t1;", 0, 1, 0, 2, 2, 3, -1);
        e.due("told twice with one between", x.goneBy(0, 0, 3), BAD);
        e.due("one of them", x.goneBy(0, 0, 2), 1);
        e.due("three", x.goneBy(0, 1, 3), 1);
        e.due("told twice at once", x.goneBy(0, 3, 2), BAD);
        e.due("3 is none", x.goneBy(0, 5, 1), BAD);
        e.due("-1 is none", x.goneBy(0, 6, 1), BAD);
        e.due("the last of them is none", x.goneBy(0, 4, 2), BAD);
        e.due("beyond those that are told nothing counts", x.goneBy(0, 4, 1), 1);
        e.due("PLACE ahead of it", x.goneBy(0, 38, 3), PLACE);
        e.due("status", x.status(), 2);
        e.due("BAD", x.goneBy(0, 5, 1), BAD);
        e.due("BAD is no finding, and leaves it", x.status(), 2);
        x.row(1, 2, 3);
        for (int v : new int[] {3, 5, 8, 31, 32, 33, 64, MAX, MIN, -32}) {
            x.set(1, 1, v);
            e.due("item " + v, x.goneBy(1, 0, 2), BAD);
            e.due("status", x.status(), 0);
        }
        HedgeGate nobody = told("h1" + OPEN + "f0;", 0);
        e.due("there is nobody", nobody.goneBy(0, 0, 1), BAD);
        e.due("none of nobody", nobody.goneBy(0, 0, 0), 1);
    }
}
