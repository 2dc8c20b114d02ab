/** Promises 15 to 22: what is foretold, and that nothing changes by it. */
public final class ForetoldTest {
    private static final Check CHECK = new Check("foretold");
    private static final int NONE = HedgeGate.NONE, BAD = HedgeGate.BAD, STATE = HedgeGate.STATE;
    private static final int NULL = -1000011, PLACE = -1000012;
    private static final int MAX = Integer.MAX_VALUE, MIN = Integer.MIN_VALUE;

    public static void main(String[] args) {
        refusesWithoutAHedge();
        tellsWhoCan();
        tellsHowSoon();
        plansTheLeastHour();
        plansTheFirstOfSeveral();
        plansFollowers();
        plansAroundWornWords();
        plansFromNow();
        plansNothing();
        talksLongest();
        talksFromNow();
        findsFamilies();
        bansWords();
        tellsWhoWasThrough();
        countsWaysGone();
        refusesRowsOfTheGone();
        changesNothing();
        CHECK.end();
    }

    private static void refusesWithoutAHedge() {
        HedgeGate x = new HedgeGate();
        CHECK.due("can", x.can(0), BAD);
        CHECK.due("soon", x.soon(0), BAD);
        CHECK.due("plan", x.plan(9), STATE);
        CHECK.due("talk", x.talk(9), STATE);
        CHECK.due("family", x.family(-1, 9), STATE);
        CHECK.due("ban", x.ban(9), STATE);
        CHECK.due("who", x.who(-1, 9), STATE);
        CHECK.due("goneBy", x.goneBy(9, 0, 9), STATE);
    }

    private static void tellsWhoCan() {
        HedgeGate x = Check.gate("h3,3,1,0,0;p0;p1;e0;f1;t15;t2;t5;t8;");
        CHECK.due("can -1", x.can(-1), BAD);
        CHECK.due("can 4", x.can(4), BAD);
        CHECK.due("can 0", x.can(0), 15);
        CHECK.due("can 2", x.can(2), 5);
        x.asks(1, 1);
        CHECK.due("has passed", x.can(1), STATE);
        CHECK.due("behind case 1 comes 0", x.can(0), 5);
        CHECK.due("none can", x.can(3), 0);
        x.asks(0, 0);
        CHECK.due("no echo, worn", x.can(2), 0);
        CHECK.due("foreign", x.can(3), 8);
    }

    private static void tellsHowSoon() {
        HedgeGate x = Check.gate("h24,1,3,0,0;p0;p1;f1;t1;t1;t2;t3;");
        CHECK.due("soon -1", x.soon(-1), BAD);
        CHECK.due("soon 4", x.soon(4), BAD);
        CHECK.due("now", x.soon(0), 0);
        x.waits(3);
        CHECK.due("now", x.soon(1), 3);
        x.asks(0, 0);
        CHECK.due("has passed", x.soon(0), STATE);
        CHECK.due("24 hours behind hour 3", x.soon(1), 27);
        CHECK.due("never behind case 0", x.soon(2), NONE);
        CHECK.due("by the other word not", x.soon(3), 27);
        x.waits(22);
        CHECK.due("one more", x.soon(1), 27);
        x.waits(1);
        CHECK.due("now", x.soon(1), 27);
        CHECK.due("never", x.soon(2), NONE);
        HedgeGate y = Check.gate("h9,15,15,15,15;p0;t1;t1;");
        for (int i = 0; i < 41; i++) {
            y.waits(24);
        }
        y.waits(15);
        y.asks(0, 0);
        CHECK.due("beyond hour 999", y.soon(1), 1008);
    }

    private static void steps(HedgeGate x, int hour, int... steps) {
        CHECK.due("plan", x.plan(-1), hour);
        for (int k = 0; k < 5; k++) {
            CHECK.due("step " + k, x.plan(k), k < steps.length ? steps[k] : NONE);
        }
    }

    private static void plansTheLeastHour() {
        HedgeGate x = Check.gate("h9,15,15,15,15;n0;f0;t3;t1;");
        CHECK.due("plan -2", x.plan(-2), BAD);
        CHECK.due("plan 5", x.plan(5), BAD);
        steps(x, 3, 1, 16);
        // behind case 0 only 1 may come: one has to begin with its no
        HedgeGate y = Check.gate("h9,2,0,0,0;n0;f1;f0;t2;t1;");
        steps(y, 3, 16, 1);
        // the first way found takes an hour more than a later one
        HedgeGate z = Check.gate("h9,15,2,2,15;n0;p1;p2;t3;t4;");
        steps(z, 2, 18, 1);
    }

    private static void plansTheFirstOfSeveral() {
        HedgeGate x = Check.gate("h1,15,15,15,15;f0;f1;t3;t3;t3;");
        steps(x, 3, 0, 16, 32);
        // traveller 0 may not be first: nothing comes behind case 3
        HedgeGate y = Check.gate("h1,15,15,15,0;f3;f0;f1;t1;t6;t6;");
        steps(y, 3, 17, 33, 0);
    }

    private static void plansFollowers() {
        // a word comes ahead of following
        HedgeGate x = Check.gate("h1,15,15,15,15;i0;p1;t3;t3;");
        steps(x, 2, 0, 16);
        // the other word is worn then, and only following is left
        HedgeGate y = Check.gate("h9,0,0,0,0;i0;t1;t1;");
        steps(y, 2, 0, 24);
        // a follower that is allowed already
        HedgeGate z = Check.gate("h9,0,0,0,0;i0;n1;t1;t2;t2;");
        z.asks(0, 0);
        steps(z, NONE);
        z.undo();
        steps(z, NONE);
        HedgeGate v = Check.gate("h9,0,0,0,0;i0;n1;t1;t2;");
        v.asks(0, 0);
        steps(v, 2, 24);
        v.follows(1);
        steps(v, 2);
        // two ifs, behind each other, let two follow
        HedgeGate u = Check.gate("h9,2,0,0,0;i0;i1;t1;t2;t1;t1;");
        steps(u, 4, 0, 17, 40, 56);
        steps(Check.gate("h9,2,0,0,0;i0;i1;t1;t2;t1;t1;t1;"), NONE);
    }

    private static void plansAroundWornWords() {
        // words 0 and 1 of one case: the plain one is worn for four hours
        HedgeGate x = Check.gate("h4,15,15,15,15;p0;p0;t1;t3;t1;");
        steps(x, NONE);
        HedgeGate y = Check.gate("h2,15,15,15,15;p0;p0;t1;t3;t1;");
        steps(y, 3, 0, 17, 32);
        // the no gives the time that the plain one needs
        HedgeGate z = Check.gate("h3,15,15,15,15;p0;n0;t1;t2;t1;");
        steps(z, 4, 0, 17, 32);
    }

    private static void plansFromNow() {
        HedgeGate x = Check.gate("h3,2,1,0,0;p0;p1;p0;t1;t2;t5;");
        x.waits(4);
        steps(x, 7, 0, 17, 34);
        x.asks(1, 1);
        steps(x, NONE);
        x.undo();
        x.asks(0, 0);
        steps(x, 7, 17, 34);
        x.asks(1, 1);
        steps(x, 7, 34);
        x.asks(2, 2);
        steps(x, 7);
    }

    private static void plansNothing() {
        steps(Check.gate("h1,0,0,0,0;"), 0);
        HedgeGate x = Check.gate("h1,0,0,0,0;p0;");
        x.waits(9);
        steps(x, 9);
        steps(Check.gate("h1,0,0,0,0;p0;t1;t1;"), NONE);
    }

    private static void row(HedgeGate x, int... words) {
        CHECK.due("talk", x.talk(-1), words.length);
        for (int k = 0; k < 8; k++) {
            CHECK.due("talk " + k, x.talk(k), k < words.length ? words[k] : NONE);
        }
    }

    private static void talksLongest() {
        HedgeGate x = Check.gate("h1,15,15,15,15;p0;p0;p1;");
        CHECK.due("talk -2", x.talk(-2), BAD);
        CHECK.due("talk 8", x.talk(8), BAD);
        row(x, 0, 1, 2);
        // 3 -> 2 -> 1 -> 0 is the only long row
        row(Check.gate("h1,0,1,2,4;p0;p1;p2;p3;"), 3, 2, 1, 0);
        // echoes do not follow their own case: 0 1 would be cut, the plain one parts them
        row(Check.gate("h1,15,15,15,15;e0;e0;p1;"), 0, 2, 1);
        row(Check.gate("h1,15,15,15,15;e0;e0;p0;"), 0, 2);
        // two rows of two, the first of them
        row(Check.gate("h1,0,2,0,0;p0;p1;p1;"), 1, 2);
        row(Check.gate("h1,0,0,0,0;p0;p1;"), 0);
        row(Check.gate("h1,15,15,15,15;"));
        row(Check.gate("h1,15,15,15,15;p0;i1;e2;f3;n0;p1;i2;e3;"), 0, 1, 2, 3, 4, 5, 6, 7);
    }

    private static void talksFromNow() {
        HedgeGate x = Check.gate("h5,2,1,0,0;p0;p1;f0;n1;t15;t15;");
        row(x, 0, 1, 2, 3);
        x.asks(0, 0);
        row(x, 1, 2, 3);
        x.undo();
        x.asks(0, 3);
        row(x, 0, 1, 2, 3);
        x.undo();
        x.asks(0, 2);
        row(x, 1, 0, 3, 2);
        x.asks(1, 1);
        row(x, 0, 3, 2);
        x.waits(5);
        row(x, 0, 1, 2, 3);
        HedgeGate y = Check.gate("h5,0,0,0,0;p0;p1;t3;");
        y.asks(0, 0);
        row(y);
    }

    private static void findsFamilies() {
        HedgeGate x = Check.gate("h1,0,0,0,0;p0;p0;p0;p0;p0;p0;t3;t36;t10;t16;t33;");
        CHECK.due("family -1", x.family(-1, 0), BAD);
        CHECK.due("family 32", x.family(32, 0), BAD);
        CHECK.due("family least", x.family(MIN, 0), BAD);
        CHECK.due("what -1", x.family(0, -1), BAD);
        CHECK.due("what 2", x.family(0, 2), BAD);
        int[][] due = {{0, 0}, {1, 1}, {2, 4}, {5, 2}, {3, 5}, {17, 1}, {18, 32}, {19, 5}, {31, 50}, {8, 16}};
        for (int[] d : due) {
            CHECK.due("family " + d[0], x.family(d[0], 0), Integer.bitCount(d[1]));
            CHECK.due("which " + d[0], x.family(d[0], 1), d[1]);
        }
        x.asks(0, 0);
        CHECK.due("who has passed counts, too", x.family(1, 1), 1);
        HedgeGate y = Check.gate("h1,0,0,0,0;");
        CHECK.due("of none", y.family(0, 0), 0);
        CHECK.due("of none", y.family(0, 1), 0);
        CHECK.due("there is none", y.family(1, 0), BAD);
        HedgeGate z = Check.gate("h1,0,0,0,0;" + "p0;".repeat(8) + "t1;t2;t4;t8;t128;");
        CHECK.due("each its own", z.family(31, 0), 5);
        CHECK.due("each its own", z.family(31, 1), 143);
        HedgeGate v = Check.gate("h1,0,0,0,0;p0;p0;t1;t2;");
        CHECK.due("all words", v.family(3, 0), 2);
        CHECK.due("all words", v.family(3, 1), 3);
    }

    private static void bansWords() {
        HedgeGate x = Check.gate("h9,15,0,0,0;p0;p1;f2;t1;t2;t2;t6;");
        CHECK.due("ban -1", x.ban(-1), BAD);
        CHECK.due("ban 2", x.ban(2), BAD);
        CHECK.due("ban", x.ban(0), 1);
        CHECK.due("can then", x.ban(1), 2);
        x.asks(1, 1);
        CHECK.due("nothing behind case 1: the first", x.ban(0), 0);
        CHECK.due("can then", x.ban(1), 0);
        x.undo();
        x.asks(0, 0);
        CHECK.due("ban", x.ban(0), 1);
        CHECK.due("can then", x.ban(1), 1);
        HedgeGate y = Check.gate("h9,15,15,15,15;f0;f0;t3;t3;");
        CHECK.due("the first of several", y.ban(0), 0);
        CHECK.due("all can", y.ban(1), 2);
        HedgeGate z = Check.gate("h9,15,15,15,15;");
        CHECK.due("no words", z.ban(0), NONE);
        CHECK.due("no words", z.ban(1), NONE);
        CHECK.due("BAD ahead of NONE", z.ban(2), BAD);
        HedgeGate v = Check.gate("h9,15,15,15,15;p0;p0;");
        CHECK.due("nobody", v.ban(0), 0);
        CHECK.due("nobody", v.ban(1), 0);
    }

    private static void tellsWhoWasThrough() {
        HedgeGate x = Check.gate("h1,0,0,0,0;p0;p0;p0;p0;p0;p0;t3;t36;t10;t16;t33;");
        CHECK.due("who -1", x.who(-1, 0), BAD);
        CHECK.due("who 64", x.who(64, 0), BAD);
        CHECK.due("who most", x.who(MAX, 0), BAD);
        CHECK.due("what -1", x.who(0, -1), BAD);
        CHECK.due("what 2", x.who(0, 2), BAD);
        // words, how many companies, the least
        int[][] due = {{0, 1, 0}, {1, 2, 1}, {2, 2, 1}, {3, 3, 5}, {8, 1, 4}, {16, 1, 8}, {32, 2, 2},
            {34, 4, 3}, {20, 1, 10}, {10, 1, 5}, {31, 1, 31}, {63, 0, NONE}, {12, 1, 6},
            {36, 1, 18}};
        for (int[] d : due) {
            CHECK.due("who " + d[0], x.who(d[0], 0), d[1]);
            CHECK.due("least " + d[0], x.who(d[0], 1), d[2]);
        }
        x.asks(0, 0);
        CHECK.due("who has passed counts, too", x.who(1, 0), 2);
        HedgeGate y = Check.gate("h1,0,0,0,0;p0;p0;p0;");
        CHECK.due("nobody", y.who(0, 0), 1);
        CHECK.due("nobody", y.who(0, 1), 0);
        CHECK.due("there is nobody", y.who(1, 0), 0);
        CHECK.due("there is nobody", y.who(1, 1), NONE);
        HedgeGate z = Check.gate("h1,0,0,0,0;" + "p0;".repeat(8) + "t255;t255;t255;t255;t255;");
        CHECK.due("any two", z.who(129, 0), 10);
        CHECK.due("the least", z.who(129, 1), 3);
        CHECK.due("all", z.who(31, 1), 31);
        CHECK.due("too many words", z.who(63, 0), 0);
    }

    private static void countsWaysGone() {
        HedgeGate x = Check.gate("h2,2,5,15,0;p0;p1;f1;n0;t3;t15;t6;t8;t15;");
        x.row(1, 2, 40);
        for (int i = 0; i < 5; i++) {
            x.set(1, 35 + i, i);
        }
        CHECK.due("none", x.goneBy(1, 0, 0), 1);
        CHECK.due("none at the end", x.goneBy(1, 40, 0), 1);
        CHECK.due("one", x.goneBy(1, 36, 1), 4);
        // 0 then 1: p0 f1, p0 p1, p1 n0, p1 p0
        CHECK.due("two", x.goneBy(1, 35, 2), 4);
        // p0 f1, p0 p1: case 1, behind it 0 and 2: traveller 2 has neither; p1 n0: f1, p1 (3 hours ago);
        // p1 p0: f1, and p1 (2 hours ago)
        CHECK.due("three", x.goneBy(1, 35, 3), 4);
        CHECK.due("four", x.goneBy(1, 35, 4), 4);
        x.asks(1, 0);
        x.waits(3);
        CHECK.due("how it stands is nothing to it", x.goneBy(1, 35, 2), 4);
        HedgeGate y = Check.gate("h24,15,15,15,15;" + "f0;".repeat(8) + "t255;".repeat(5));
        y.row(0, 0, 5);
        for (int i = 0; i < 5; i++) {
            y.set(0, i, 4 - i);
        }
        CHECK.due("most ways", y.goneBy(0, 0, 5), 32768);
        HedgeGate z = Check.gate("h24,15,15,15,15;" + "p0;".repeat(8) + "t255;".repeat(5));
        z.row(0, 0, 5);
        for (int i = 0; i < 5; i++) {
            z.set(0, i, i);
        }
        CHECK.due("each word once", z.goneBy(0, 0, 5), 8 * 7 * 6 * 5 * 4);
        CHECK.due("status", z.status(), 0);
    }

    private static void refusesRowsOfTheGone() {
        HedgeGate x = Check.gate("h1,15,15,15,15;f0;t1;t1;t1;");
        x.row(0, 2, 4);
        CHECK.due("row -1", x.goneBy(-1, 0, 0), BAD);
        CHECK.due("row 8", x.goneBy(8, 0, 0), BAD);
        CHECK.due("n -1", x.goneBy(0, 0, -1), BAD);
        CHECK.due("n 6", x.goneBy(0, 0, 6), BAD);
        CHECK.due("n ahead of missing", x.goneBy(1, 0, 6), BAD);
        CHECK.due("missing", x.goneBy(1, -1, 0), NULL);
        CHECK.due("status", x.status(), 1);
        int[][] beyond = {{-1, 0}, {5, 0}, {4, 1}, {0, 5}, {MAX, 5}, {MIN, 1}, {MAX, 0}};
        for (int[] b : beyond) {
            CHECK.due("from " + b[0] + " " + b[1], x.goneBy(0, b[0], b[1]), PLACE);
            CHECK.due("status", x.status(), 2);
        }
        x.set(0, 1, 3);
        CHECK.due("PLACE ahead of items", x.goneBy(0, 1, 4), PLACE);
        CHECK.due("item 3 is none", x.goneBy(0, 0, 2), BAD);
        CHECK.due("a BAD item leaves status", x.status(), 2);
        x.set(0, 1, -1);
        CHECK.due("item -1 is none", x.goneBy(0, 1, 1), BAD);
        x.set(0, 1, MIN);
        CHECK.due("the least item is none", x.goneBy(0, 1, 1), BAD);
        x.set(0, 1, 32);
        CHECK.due("item 32 is none", x.goneBy(0, 0, 2), BAD);
        CHECK.due("status", x.status(), 0);
        CHECK.due("told twice", x.goneBy(0, 2, 2), BAD);
        CHECK.due("once", x.goneBy(0, 3, 1), 1);
    }

    private static void changesNothing() {
        HedgeGate x = Check.gate("h4,14,5,11,3;p0;i1;e2;f3;n0;p1;t3;t36;t10;t16;t33;");
        x.row(0, 0, 1);
        x.asks(2, 1);
        for (int i = 0; i < 3; i++) {
            x.plan(-1);
            x.talk(0);
            x.family(31, 1);
            x.ban(0);
            x.who(7, 1);
            x.goneBy(0, 0, 1);
            x.soon(0);
            x.can(0);
            CHECK.due("hour", x.count(3), 1);
            CHECK.due("case", x.count(4), 1);
            CHECK.due("may follow", x.count(5), 1);
            CHECK.due("passed", x.count(6), 1);
            CHECK.due("acts", x.count(7), 1);
            for (int w = 0; w < 6; w++) {
                CHECK.due("asked", x.word(w, 1), w == 1 ? 0 : NONE);
                CHECK.due("times", x.word(w, 2), w == 1 ? 1 : 0);
            }
        }
    }
}
