import java.util.List;

/** What is refused, or found, or foretold, changes nothing; which refusal comes first. */
final class RefusedEdges {
    private static final int NONE = HedgeGate.NONE, BAD = HedgeGate.BAD, STATE = HedgeGate.STATE;
    private static final int FULL = HedgeGate.FULL;
    private static final int NULL = -1000011, PLACE = -1000012, KIND = -1000013, SIZE = -1000014, STORE = -1000015;

    /** A call of a gate. */
    private interface Call {
        int on(HedgeGate x);
    }

    /** How a gate stands that a call comes to. */
    private enum Stand {
        NEW {
            @Override HedgeGate make() {
                return new HedgeGate();
            }
        },
        BUSY {
            @Override HedgeGate make() {
                return busy();
            }
        },
        LATE {
            @Override HedgeGate make() {
                return late();
            }
        };

        abstract HedgeGate make();
    }

    private final Edges e;

    RefusedEdges(Edges edges) {
        e = edges;
    }

    void go() {
        numbersFromNought();
        setsAreBits();
        e.outOfReach(Edges.TERMS, "All that is divided is cut towards 0.", "nothing in the document is divided");
        whichComesFirst();
        theFindings();
        e.sentence(Edges.TERMS, "What is refused, or found, changes nothing but status().");
        refusedByANewOne();
        refusedByABusyOne();
        refusedByALateOne();
        e.sentence(Edges.TERMS, "FORETOLD (nothing changes).");
        foretoldAndAsked();
    }

    /** Rows of each lane, images, a trace, a fault, bytes on the tape, acts of each kind, a finding (KIND). */
    private static HedgeGate busy() {
        HedgeGate x = new HedgeGate();
        Check.read(x, "h0");
        Check.read(x, "h1,15,15,15,15;f0;t1;");
        x.asks(0, 0);
        x.image(0);
        Check.read(x, "h3,1,3,15,15;p0;i1;e2;f0;n0;t3;t31;t5;t8;t31;");
        x.waits(2);
        x.asks(4, 1);
        x.image(1);
        x.follows(2);
        x.asks(0, 0);
        x.row(0, 0, 6);
        for (int i = 0; i < 6; i++) {
            x.set(0, i, i % 5);
        }
        x.row(1, 1, 3);
        x.row(2, 2, 0);
        x.row(3, 2, 40);
        x.ask(1, 0);
        Check.feed(x, "h24,1");
        x.as(0, 2);
        return x;
    }

    /** Hour 999, 24 acts, a full tape, all rows, one who may follow, one left. */
    private static HedgeGate late() {
        HedgeGate x = Check.gate("h24,0,0,0,0;i0;p0;t1;t2;");
        x.asks(0, 0);
        for (int i = 0; i < 41; i++) {
            x.waits(24);
        }
        x.waits(14);
        for (int row = 0; row < 8; row++) {
            x.row(row, row % 3, 6);
        }
        for (int i = 0; i < 120; i++) {
            x.feed(i == 0 ? 'h' : '0');
        }
        x.drop(9);
        x.set(0, 6, 1);
        return x;
    }

    private void refused(Stand stand, String told, int want, Call call) {
        HedgeGate x = stand.make();
        HedgeGate twin = stand.make();
        int status = x.status();
        e.due(told, call.on(x), want);
        boolean found = want < -1000010 && want >= -1000015;
        e.due(told + ": status", x.status(), found ? -1000010 - want : status);
        same(told, x, twin);
    }

    private void leaves(String told, Call call) {
        HedgeGate x = Stand.BUSY.make();
        HedgeGate twin = Stand.BUSY.make();
        call.on(x);
        same(told, x, twin);
        HedgeGate y = Stand.BUSY.make();
        e.due(told + ": the same answer again", call.on(y), call.on(y));
    }

    private void same(String told, HedgeGate x, HedgeGate twin) {
        List<Integer> seen = Look.all(x);
        List<Integer> due = Look.all(twin);
        e.holds(told + " changes nothing: " + seen + " is " + due, seen.equals(due));
    }

    private void numbersFromNought() {
        e.sentence(Edges.TERMS, "Numbers go from 0 on.");
        HedgeGate x = Check.gate("h1,15,15,15,15;p2;t1;");
        e.due("word 0", x.word(0, 0), 2);
        e.due("word 1", x.word(1, 0), BAD);
        e.due("traveller 0", x.traveller(0, 0), 1);
        e.due("traveller 1", x.traveller(1, 0), BAD);
        e.due("row 0", x.row(0, 0, 1), 1);
        e.due("place 0", x.set(0, 0, 7), 7);
        e.due("place 1", x.set(0, 1, 7), PLACE);
        e.due("hour 0", x.count(3), 0);
        e.due("image 0", x.image(0), 1);
        e.due("step 0", x.plan(0), 0);
        e.due("word 0 of the talk", x.talk(0), 0);
    }

    private void setsAreBits() {
        e.sentence(Edges.TERMS, "Sets are bits.");
        HedgeGate x = Check.gate("h1,15,15,15,15;p0;p0;p0;t6;t5;");
        e.due("words 1 and 2", x.can(0), 6);
        e.due("words 0 and 2", x.can(1), 5);
        e.due("word 2 for both", x.family(3, 1), 4);
    }

    private void whichComesFirst() {
        e.sentence(Edges.TERMS, "Refusals are answers, the first of these that fits, but as told: BAD (a number is not as "
            + "told; there is no such thing), STATE (as told), FULL (as told), then FINDINGS, of several the first in time:");
        HedgeGate x = new HedgeGate();
        e.due("BAD ahead of STATE", x.image(2), BAD);
        e.due("BAD ahead of STATE", x.restore(-1), BAD);
        e.due("BAD ahead of a finding", x.row(0, 3, -1), BAD);
        e.due("BAD ahead of a finding", x.copy(0, 0, 8, 0, 0), BAD);
        e.due("no such thing", x.asks(0, 0), BAD);
        e.due("STATE ahead of BAD, as told", x.goneBy(8, 0, 9), STATE);
        e.due("STATE ahead of a finding", x.goneBy(0, 0, 1), STATE);
        x.row(0, 0, 1);
        x.row(1, 1, 1);
        e.due("NULL ahead of STORE and PLACE", x.copy(0, 9, 2, 9, 1), NULL);
        e.due("STORE ahead of PLACE", x.copy(0, 9, 1, 9, 1), STORE);
        HedgeGate y = late();
        e.due("BAD ahead of FULL", y.waits(25), BAD);
        e.due("BAD ahead of FULL", y.feed(256), BAD);
        e.due("FULL", y.waits(24), FULL);
        e.due("FULL", y.feed(255), FULL);
    }

    private void theFindings() {
        e.sentence(Edges.TERMS, "-1000010 less 1 NULL (a ROW that is missing), 2 PLACE (no such place of a ROW), 3 KIND (a "
            + "WORD that is not that), 4 SIZE (fewer than none), 5 STORE (ROWS of two LANES).");
        HedgeGate x = Check.gate("h1,15,15,15,15;p0;");
        e.due("NULL", x.drop(0), -1000010 - 1);
        e.due("status", x.status(), 1);
        x.row(0, 0, 1);
        e.due("PLACE", x.set(0, 1, 0), -1000010 - 2);
        e.due("status", x.status(), 2);
        e.due("KIND", x.as(0, 4), -1000010 - 3);
        e.due("status", x.status(), 3);
        e.due("SIZE", x.row(0, 0, -1), -1000010 - 4);
        e.due("status", x.status(), 4);
        x.row(1, 1, 1);
        e.due("STORE", x.copy(0, 0, 1, 0, 1), -1000010 - 5);
        e.due("status", x.status(), 5);
        e.due("the constants: NONE", HedgeGate.NONE, -1000000);
        e.due("the constants: BAD", HedgeGate.BAD, -1000001);
        e.due("the constants: STATE", HedgeGate.STATE, -1000002);
        e.due("the constants: FULL", HedgeGate.FULL, -1000003);
    }

    private void refusedByANewOne() {
        refused(Stand.NEW, "row", BAD, x -> x.row(-1, 0, 0));
        refused(Stand.NEW, "row", SIZE, x -> x.row(0, 0, -1));
        refused(Stand.NEW, "set", NULL, x -> x.set(0, 0, 0));
        refused(Stand.NEW, "copy", NULL, x -> x.copy(0, 0, 1, 0, 0));
        refused(Stand.NEW, "drop", NULL, x -> x.drop(0));
        refused(Stand.NEW, "feed", BAD, x -> x.feed(256));
        refused(Stand.NEW, "asks", BAD, x -> x.asks(0, 0));
        refused(Stand.NEW, "follows", BAD, x -> x.follows(0));
        refused(Stand.NEW, "waits", STATE, x -> x.waits(1));
        refused(Stand.NEW, "undo", STATE, HedgeGate::undo);
        refused(Stand.NEW, "word", BAD, x -> x.word(0, 0));
        refused(Stand.NEW, "traveller", BAD, x -> x.traveller(0, 0));
        refused(Stand.NEW, "can", BAD, x -> x.can(0));
        refused(Stand.NEW, "soon", BAD, x -> x.soon(0));
        refused(Stand.NEW, "plan", STATE, x -> x.plan(-1));
        refused(Stand.NEW, "talk", STATE, x -> x.talk(-1));
        refused(Stand.NEW, "family", STATE, x -> x.family(0, 0));
        refused(Stand.NEW, "ban", STATE, x -> x.ban(0));
        refused(Stand.NEW, "who", STATE, x -> x.who(0, 0));
        refused(Stand.NEW, "goneBy", STATE, x -> x.goneBy(0, 0, 0));
        refused(Stand.NEW, "image", STATE, x -> x.image(0));
        refused(Stand.NEW, "restore", STATE, x -> x.restore(0));
        refused(Stand.NEW, "kind", BAD, x -> x.kind(0));
        refused(Stand.NEW, "as", BAD, x -> x.as(0, 0));
        refused(Stand.NEW, "ask", BAD, x -> x.ask(0, 0));
        refused(Stand.NEW, "trace", NONE, x -> x.trace(0));
        refused(Stand.NEW, "count", BAD, x -> x.count(9));
    }

    private void refusedByABusyOne() {
        refused(Stand.BUSY, "row 8", BAD, x -> x.row(8, 0, 1));
        refused(Stand.BUSY, "row of lane 3", BAD, x -> x.row(0, 3, 1));
        refused(Stand.BUSY, "row of 41", BAD, x -> x.row(0, 0, 41));
        refused(Stand.BUSY, "row of -1", SIZE, x -> x.row(0, 1, -1));
        refused(Stand.BUSY, "a new row of -1", SIZE, x -> x.row(7, 1, -1));
        refused(Stand.BUSY, "set of row 8", BAD, x -> x.set(8, 0, 1));
        refused(Stand.BUSY, "set of a missing row", NULL, x -> x.set(7, 0, 1));
        refused(Stand.BUSY, "set beyond", PLACE, x -> x.set(0, 6, 1));
        refused(Stand.BUSY, "set below", PLACE, x -> x.set(0, -1, 1));
        refused(Stand.BUSY, "copy from row 8", BAD, x -> x.copy(8, 0, 0, 0, 1));
        refused(Stand.BUSY, "copy from a missing one", NULL, x -> x.copy(7, 0, 0, 0, 1));
        refused(Stand.BUSY, "copy to a missing one", NULL, x -> x.copy(0, 0, 7, 0, 1));
        refused(Stand.BUSY, "copy of two lanes", STORE, x -> x.copy(3, 0, 0, 0, 3));
        refused(Stand.BUSY, "copy beyond", PLACE, x -> x.copy(0, 0, 0, 1, 6));
        refused(Stand.BUSY, "copy of fewer than none", PLACE, x -> x.copy(0, 3, 0, 1, -1));
        refused(Stand.BUSY, "drop of row 8", BAD, x -> x.drop(8));
        refused(Stand.BUSY, "drop of a missing one", NULL, x -> x.drop(7));
        refused(Stand.BUSY, "feed", BAD, x -> x.feed(-1));
        refused(Stand.BUSY, "asks, traveller 5", BAD, x -> x.asks(5, 0));
        refused(Stand.BUSY, "asks, word 5", BAD, x -> x.asks(1, 5));
        refused(Stand.BUSY, "asks, has passed", STATE, x -> x.asks(0, 3));
        refused(Stand.BUSY, "asks, has not that word", STATE, x -> x.asks(3, 4));
        refused(Stand.BUSY, "asks, worn", STATE, x -> x.asks(1, 0));
        refused(Stand.BUSY, "asks, not behind that", STATE, x -> x.asks(1, 2));
        refused(Stand.BUSY, "follows, traveller 5", BAD, x -> x.follows(5));
        refused(Stand.BUSY, "follows, nobody may", STATE, x -> x.follows(1));
        refused(Stand.BUSY, "follows, has passed", STATE, x -> x.follows(2));
        refused(Stand.BUSY, "waits 0", BAD, x -> x.waits(0));
        refused(Stand.BUSY, "waits 25", BAD, x -> x.waits(25));
        refused(Stand.BUSY, "word 5", BAD, x -> x.word(5, 0));
        refused(Stand.BUSY, "traveller 5", BAD, x -> x.traveller(5, 0));
        refused(Stand.BUSY, "can 5", BAD, x -> x.can(5));
        refused(Stand.BUSY, "can, has passed", STATE, x -> x.can(0));
        refused(Stand.BUSY, "soon 5", BAD, x -> x.soon(5));
        refused(Stand.BUSY, "soon, has passed", STATE, x -> x.soon(2));
        refused(Stand.BUSY, "plan 5", BAD, x -> x.plan(5));
        refused(Stand.BUSY, "talk 8", BAD, x -> x.talk(8));
        refused(Stand.BUSY, "family 32", BAD, x -> x.family(32, 0));
        refused(Stand.BUSY, "ban 2", BAD, x -> x.ban(2));
        refused(Stand.BUSY, "who 32", BAD, x -> x.who(32, 0));
        refused(Stand.BUSY, "goneBy, row 8", BAD, x -> x.goneBy(8, 0, 1));
        refused(Stand.BUSY, "goneBy, six", BAD, x -> x.goneBy(0, 0, 6));
        refused(Stand.BUSY, "goneBy, missing", NULL, x -> x.goneBy(7, 0, 1));
        refused(Stand.BUSY, "goneBy, beyond", PLACE, x -> x.goneBy(0, 2, 5));
        refused(Stand.BUSY, "goneBy, told twice", BAD, x -> x.goneBy(3, 0, 2));
        refused(Stand.BUSY, "image 2", BAD, x -> x.image(2));
        refused(Stand.BUSY, "restore 2", BAD, x -> x.restore(2));
        refused(Stand.BUSY, "kind 5", BAD, x -> x.kind(5));
        refused(Stand.BUSY, "as 6", BAD, x -> x.as(0, 6));
        refused(Stand.BUSY, "as, no such one", KIND, x -> x.as(3, 5));
        refused(Stand.BUSY, "ask 2", BAD, x -> x.ask(0, 2));
        refused(Stand.BUSY, "ask of word 5", BAD, x -> x.ask(5, 0));
        refused(Stand.BUSY, "trace 6", NONE, x -> x.trace(6));
        refused(Stand.BUSY, "count 9", BAD, x -> x.count(9));
    }

    private void refusedByALateOne() {
        refused(Stand.LATE, "feed of a full tape", FULL, x -> x.feed('h'));
        refused(Stand.LATE, "waits in hour 999", FULL, x -> x.waits(1));
        refused(Stand.LATE, "waits 25 in hour 999", BAD, x -> x.waits(25));
        refused(Stand.LATE, "restore of none", STATE, x -> x.restore(1));
        refused(Stand.LATE, "asks what may not be", STATE, x -> x.asks(1, 1));
        refused(Stand.LATE, "a row of -1 in place of one", SIZE, x -> x.row(0, 0, -1));
    }

    private void foretoldAndAsked() {
        for (int k = -1; k < 8; k++) {
            int at = k;
            leaves("can", x -> x.can(at));
            leaves("soon", x -> x.soon(at));
            leaves("plan", x -> x.plan(at));
            leaves("talk", x -> x.talk(at));
            leaves("family", x -> x.family(at * 4 + 3, at & 1));
            leaves("ban", x -> x.ban(at & 1));
            leaves("who", x -> x.who(at * 4 + 3, at & 1));
            leaves("goneBy", x -> x.goneBy(0, 1, Math.min(at, 5)));
            leaves("word", x -> x.word(at, 3));
            leaves("traveller", x -> x.traveller(at, 2));
            leaves("kind", x -> x.kind(at));
            leaves("as", x -> x.as(at, at));
            leaves("trace", x -> x.trace(at));
            leaves("count", x -> x.count(at));
        }
        leaves("fault", HedgeGate::fault);
        leaves("status", HedgeGate::status);
        leaves("nothing", x -> 0);
    }
}
