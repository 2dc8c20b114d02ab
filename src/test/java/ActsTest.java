/** Promises 9 to 14: questions, followers, hours, what is undone, and what is told of each. */
public final class ActsTest {
    private static final Check CHECK = new Check("acts");
    private static final int NONE = HedgeGate.NONE, BAD = HedgeGate.BAD;
    private static final int STATE = HedgeGate.STATE, FULL = HedgeGate.FULL;

    public static void main(String[] args) {
        refusesWithoutAHedge();
        asksInOrder();
        wearsWords();
        foreignWordsAreNeverWorn();
        echoesDifferFromTheLastCase();
        noesTakeTwoHours();
        ifsLetFollow();
        waitsHours();
        undoesEachAct();
        forgetsTheOldestActs();
        tellsWords();
        tellsTravellers();
        CHECK.end();
    }

    private static void refusesWithoutAHedge() {
        HedgeGate x = new HedgeGate();
        CHECK.due("asks", x.asks(0, 0), BAD);
        CHECK.due("follows", x.follows(0), BAD);
        CHECK.due("waits", x.waits(1), STATE);
        CHECK.due("waits, STATE ahead of BAD", x.waits(0), STATE);
        CHECK.due("undo", x.undo(), STATE);
        CHECK.due("word", x.word(0, 0), BAD);
        CHECK.due("traveller", x.traveller(0, 0), BAD);
    }

    private static void asksInOrder() {
        // behind case 0 comes 1, behind 1 comes 0 and 2, behind 2 nothing, behind 3 all
        HedgeGate x = Check.gate("h2,2,5,0,15;p0;p1;p2;p3;t3;t15;t15;t15;");
        CHECK.due("no such traveller", x.asks(4, 0), BAD);
        CHECK.due("no such traveller", x.asks(-1, 0), BAD);
        CHECK.due("no such word", x.asks(0, 4), BAD);
        CHECK.due("no such word", x.asks(0, -1), BAD);
        CHECK.due("not its word", x.asks(0, 2), STATE);
        CHECK.due("refused: hour", x.count(3), 0);
        CHECK.due("refused: acts", x.count(7), 0);
        CHECK.due("the first", x.asks(0, 0), 1);
        CHECK.due("has passed", x.asks(0, 1), STATE);
        CHECK.due("case 2 behind 0", x.asks(1, 2), STATE);
        CHECK.due("case 0 behind 0", x.asks(1, 0), STATE);
        CHECK.due("case 3 behind 0", x.asks(1, 3), STATE);
        CHECK.due("case 1 behind 0", x.asks(1, 1), 2);
        CHECK.due("case 2 behind 1", x.asks(2, 2), 3);
        for (int w = 0; w < 4; w++) {
            CHECK.due("nothing behind 2", x.asks(3, w), STATE);
        }
        CHECK.due("passed", x.count(6), 3);
        CHECK.due("case", x.count(4), 2);
    }

    private static void wearsWords() {
        HedgeGate x = Check.gate("h3,15,15,15,15;p0;p0;t1;t3;t3;");
        x.asks(0, 0);
        CHECK.due("worn 1 hour later", x.asks(1, 0), STATE);
        CHECK.due("may", x.word(0, 3), 0);
        x.waits(1);
        CHECK.due("worn 2 hours later", x.asks(1, 0), STATE);
        x.waits(1);
        CHECK.due("may", x.word(0, 3), 1);
        CHECK.due("not 3 hours later", x.asks(1, 0), 4);
        CHECK.due("worn anew", x.asks(2, 0), STATE);
        CHECK.due("the other is not", x.asks(2, 1), 5);
        HedgeGate y = Check.gate("h1,15,15,15,15;p0;t1;t1;");
        CHECK.due("memory 1", y.asks(0, 0), 1);
        CHECK.due("forgotten at once", y.asks(1, 0), 2);
        CHECK.due("asked", y.word(0, 2), 2);
        CHECK.due("asked last", y.word(0, 1), 1);
    }

    private static void foreignWordsAreNeverWorn() {
        HedgeGate x = Check.gate("h24,15,15,15,15;p0;i0;e1;f0;n0;t31;t31;t31;t31;t31;");
        CHECK.due("foreign", x.asks(0, 3), 1);
        CHECK.due("foreign again", x.asks(1, 3), 2);
        CHECK.due("no", x.asks(2, 4), 4);
        CHECK.due("no again", x.asks(3, 4), 6);
        CHECK.due("asked", x.word(3, 2), 2);
        x.undo();
        x.undo();
        CHECK.due("if", x.asks(2, 1), 3);
        CHECK.due("if is worn", x.asks(3, 1), STATE);
        CHECK.due("echo", x.asks(3, 2), 4);
        CHECK.due("echo is worn", x.asks(4, 2), STATE);
        CHECK.due("plain", x.asks(4, 0), 5);
        CHECK.due("plain is worn", x.word(0, 3), 0);
        CHECK.due("foreign is not", x.word(3, 3), 1);
    }

    private static void echoesDifferFromTheLastCase() {
        HedgeGate x = Check.gate("h1,15,15,15,15;e0;e0;p0;p1;t15;t15;t15;t15;");
        CHECK.due("an echo may be first", x.asks(0, 0), 1);
        CHECK.due("not behind its case", x.asks(1, 1), STATE);
        CHECK.due("nor itself", x.asks(1, 0), STATE);
        CHECK.due("a plain one may", x.asks(1, 2), 2);
        CHECK.due("nor behind a plain one of it", x.asks(2, 0), STATE);
        CHECK.due("another case", x.asks(2, 3), 3);
        CHECK.due("behind that", x.asks(3, 1), 4);
        HedgeGate y = Check.gate("h1,0,0,0,0;e0;p1;t3;t3;");
        y.asks(0, 1);
        CHECK.due("an echo whose case may not come", y.asks(1, 0), STATE);
    }

    private static void noesTakeTwoHours() {
        HedgeGate x = Check.gate("h3,15,15,15,15;n0;p0;t1;t2;t2;");
        CHECK.due("a no", x.asks(0, 0), 2);
        CHECK.due("was asked as it came", x.word(0, 1), 0);
        CHECK.due("plain", x.asks(1, 1), 3);
        CHECK.due("asked then", x.word(1, 1), 2);
        CHECK.due("soon", x.soon(2), 5);
    }

    private static void ifsLetFollow() {
        HedgeGate x = Check.gate("h2,15,15,15,15;i0;i1;p2;t7;t7;t7;t7;t7;");
        CHECK.due("no such traveller", x.follows(5), BAD);
        CHECK.due("no such traveller", x.follows(-1), BAD);
        CHECK.due("nobody may", x.follows(0), STATE);
        CHECK.due("if", x.asks(0, 0), 1);
        CHECK.due("if", x.asks(1, 1), 2);
        CHECK.due("two may", x.count(5), 2);
        CHECK.due("has passed", x.follows(0), STATE);
        CHECK.due("one follows", x.follows(4), 1);
        CHECK.due("hour", x.count(3), 3);
        CHECK.due("case stays", x.count(4), 1);
        CHECK.due("followed", x.traveller(4, 2), 8);
        CHECK.due("has passed", x.follows(4), STATE);
        CHECK.due("one follows", x.follows(2), 0);
        CHECK.due("nobody may", x.follows(3), STATE);
        CHECK.due("hour", x.count(3), 4);
        CHECK.due("passed", x.count(6), 4);
        CHECK.due("acts", x.count(7), 4);
        CHECK.due("words are not asked by it", x.word(0, 2) + x.word(1, 2) + x.word(2, 2), 2);
    }

    private static void waitsHours() {
        HedgeGate x = Check.gate("h2,15,15,15,15;p0;n0;t1;t2;t3;");
        CHECK.due("0 hours", x.waits(0), BAD);
        CHECK.due("-1 hours", x.waits(-1), BAD);
        CHECK.due("25 hours", x.waits(25), BAD);
        CHECK.due("1 hour", x.waits(1), 1);
        for (int i = 1; i <= 41; i++) {
            CHECK.due("24 hours", x.waits(24), 1 + 24 * i);
        }
        CHECK.due("beyond 999", x.waits(15), FULL);
        CHECK.due("BAD ahead of FULL", x.waits(25), BAD);
        CHECK.due("to 999", x.waits(14), 999);
        CHECK.due("beyond", x.waits(1), FULL);
        CHECK.due("one may ask beyond", x.asks(0, 0), 1000);
        CHECK.due("and again", x.asks(1, 1), 1002);
        CHECK.due("beyond", x.waits(1), FULL);
        CHECK.due("acts", x.count(7), 24);
    }

    private static void undoesEachAct() {
        HedgeGate x = Check.gate("h3,15,15,15,15;i0;n1;t3;t3;t3;t3;");
        x.asks(0, 1);
        x.waits(5);
        x.asks(1, 0);
        x.follows(3);
        x.waits(4);
        x.asks(2, 1);
        CHECK.due("undo a no", x.undo(), 5);
        seen(x, 13, 0, 0, 3);
        CHECK.due("asked last as ahead", x.word(1, 1), 0);
        CHECK.due("asked", x.word(1, 2), 1);
        CHECK.due("undo hours", x.undo(), 4);
        seen(x, 9, 0, 0, 3);
        CHECK.due("undo a follower", x.undo(), 3);
        seen(x, 8, 0, 1, 2);
        CHECK.due("follower", x.traveller(3, 1), 0);
        CHECK.due("undo an if", x.undo(), 2);
        seen(x, 7, 1, 0, 1);
        CHECK.due("if never asked", x.word(0, 1), NONE);
        CHECK.due("if asked", x.word(0, 2), 0);
        CHECK.due("who asked it", x.traveller(1, 2), NONE);
        CHECK.due("undo hours", x.undo(), 1);
        seen(x, 2, 1, 0, 1);
        CHECK.due("undo the first", x.undo(), 0);
        seen(x, 0, -1, 0, 0);
        CHECK.due("never asked", x.word(1, 1), NONE);
        CHECK.due("none", x.undo(), STATE);
        CHECK.due("it can be asked anew", x.asks(0, 0), 1);
    }

    private static void seen(HedgeGate x, int hour, int lastCase, int mayFollow, int passed) {
        CHECK.due("hour", x.count(3), hour);
        CHECK.due("case", x.count(4), lastCase);
        CHECK.due("may follow", x.count(5), mayFollow);
        CHECK.due("passed", x.count(6), passed);
    }

    private static void forgetsTheOldestActs() {
        HedgeGate x = Check.gate("h1,15,15,15,15;f0;t1;");
        CHECK.due("asked", x.asks(0, 0), 1);
        for (int i = 1; i <= 23; i++) {
            x.waits(1);
            CHECK.due("acts", x.count(7), i + 1);
        }
        x.waits(2);
        CHECK.due("24 at most", x.count(7), 24);
        for (int i = 23; i >= 0; i--) {
            CHECK.due("undo", x.undo(), i);
        }
        CHECK.due("none", x.undo(), STATE);
        CHECK.due("the oldest is forgotten: hour", x.count(3), 1);
        CHECK.due("the oldest is forgotten: passed", x.traveller(0, 2), 0);
    }

    private static void tellsWords() {
        HedgeGate x = Check.gate("h5,2,0,0,0;p0;f1;t3;t3;");
        CHECK.due("what -1", x.word(0, -1), BAD);
        CHECK.due("what 4", x.word(0, 4), BAD);
        CHECK.due("word -1", x.word(-1, 0), BAD);
        CHECK.due("word 2", x.word(2, 0), BAD);
        CHECK.due("case", x.word(1, 0), 1);
        CHECK.due("hour", x.word(1, 1), NONE);
        CHECK.due("asked", x.word(1, 2), 0);
        CHECK.due("may", x.word(1, 3), 1);
        x.waits(7);
        x.asks(0, 0);
        CHECK.due("hour", x.word(0, 1), 7);
        CHECK.due("asked", x.word(0, 2), 1);
        CHECK.due("may", x.word(0, 3), 0);
        CHECK.due("may", x.word(1, 3), 1);
        x.asks(1, 1);
        CHECK.due("nothing behind case 1", x.word(1, 3), 0);
    }

    private static void tellsTravellers() {
        HedgeGate x = Check.gate("h5,15,0,0,0;i0;f1;t2;t3;t1;");
        CHECK.due("what -1", x.traveller(0, -1), BAD);
        CHECK.due("what 3", x.traveller(0, 3), BAD);
        CHECK.due("traveller -1", x.traveller(-1, 0), BAD);
        CHECK.due("traveller 3", x.traveller(3, 0), BAD);
        CHECK.due("set", x.traveller(0, 0), 2);
        CHECK.due("passed", x.traveller(0, 1), 0);
        CHECK.due("by", x.traveller(0, 2), NONE);
        x.asks(1, 0);
        x.follows(2);
        x.asks(0, 1);
        CHECK.due("passed", x.traveller(0, 1), 1);
        CHECK.due("by", x.traveller(0, 2), 1);
        CHECK.due("by", x.traveller(1, 2), 0);
        CHECK.due("passed", x.traveller(2, 1), 1);
        CHECK.due("by", x.traveller(2, 2), 8);
        CHECK.due("set", x.traveller(2, 0), 1);
    }
}
