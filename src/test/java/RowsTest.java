/** Promises 1 to 5, and what promise 30 says of them. */
public final class RowsTest {
    private static final Check CHECK = new Check("rows");
    private static final int MAX = Integer.MAX_VALUE, MIN = Integer.MIN_VALUE;
    private static final int NULL = -1000011, PLACE = -1000012, SIZE = -1000014, STORE = -1000015;
    /** One foreign word that may always be asked: each item of 0 to 4 is a traveller. */
    private static final String OPEN = "h1,15,15,15,15;f0;t1;t1;t1;t1;t1;";

    public static void main(String[] args) {
        newObject();
        makesRows();
        setsItems();
        copiesItems();
        copiesWithinOneRow();
        dropsRows();
        tellsStatus();
        CHECK.end();
    }

    private static void newObject() {
        HedgeGate x = new HedgeGate();
        for (int what = 0; what <= 8; what++) {
            CHECK.due("count " + what + " of a new object", x.count(what), what == 4 ? -1 : 0);
        }
        CHECK.due("status of a new object", x.status(), 0);
        CHECK.due("fault of a new object", x.fault(), 0);
        CHECK.due("trace of a new object", x.trace(0), HedgeGate.NONE);
        CHECK.due("plan without a hedge", x.plan(-1), HedgeGate.STATE);
        for (int row = 0; row < 8; row++) {
            CHECK.due("drop of a row of a new object", x.drop(row), NULL);
        }
    }

    private static void makesRows() {
        HedgeGate x = new HedgeGate();
        for (int row = 0; row < 8; row++) {
            CHECK.due("row " + row, x.row(row, row % 3, 40 - row), 40 - row);
            CHECK.due("rows", x.count(0), row + 1);
        }
        CHECK.due("row again", x.row(0, 2, 0), 0);
        CHECK.due("rows", x.count(0), 8);
        CHECK.due("row -1", x.row(-1, 0, 1), HedgeGate.BAD);
        CHECK.due("row 8", x.row(8, 0, 1), HedgeGate.BAD);
        CHECK.due("lane -1", x.row(0, -1, 1), HedgeGate.BAD);
        CHECK.due("lane 3", x.row(0, 3, 1), HedgeGate.BAD);
        CHECK.due("41 items", x.row(0, 0, 41), HedgeGate.BAD);
        CHECK.due("most items", x.row(0, 0, MAX), HedgeGate.BAD);
        CHECK.due("-1 items", x.row(0, 0, -1), SIZE);
        CHECK.due("least items", x.row(0, 0, MIN), SIZE);
        CHECK.due("lane is looked at ahead of fewer than none", x.row(0, 3, -1), HedgeGate.BAD);
        CHECK.due("row is looked at ahead of fewer than none", x.row(8, 0, -1), HedgeGate.BAD);
        CHECK.due("what is found changes nothing", x.drop(0), 0);
        CHECK.due("rows", x.count(0), 7);
        newRowsHoldNoughts();
    }

    private static void newRowsHoldNoughts() {
        HedgeGate x = Check.gate("h1,15,15,15,15;f0;t1;");
        x.row(0, 2, 3);
        CHECK.due("a new row has noughts", x.goneBy(0, 2, 1), 1);
        x.set(0, 0, 9);
        CHECK.due("item 9 is no traveller", x.goneBy(0, 0, 1), HedgeGate.BAD);
        x.row(0, 2, 3);
        CHECK.due("a row made again has noughts", x.goneBy(0, 0, 1), 1);
        x.set(0, 0, 9);
        x.drop(0);
        x.row(0, 2, 3);
        CHECK.due("a row made behind a drop has noughts", x.goneBy(0, 0, 1), 1);
    }

    private static void setsItems() {
        HedgeGate x = new HedgeGate();
        CHECK.due("a row that is missing", x.set(0, 0, 1), NULL);
        CHECK.due("row ahead of missing", x.set(8, 0, 1), HedgeGate.BAD);
        CHECK.due("row -1", x.set(-1, 0, 1), HedgeGate.BAD);
        int[] values = {0, 127, 128, 255, 256, -128, -129, 32767, 32768, 65535, 70000, -32769, MAX, MIN};
        for (int lane = 0; lane < 3; lane++) {
            x.row(lane, lane, 2);
            for (int v : values) {
                int want = lane == 0 ? (byte) v : lane == 1 ? (short) v : v;
                CHECK.due("set in lane " + lane + " of " + v, x.set(lane, 1, v), want);
            }
            CHECK.due("place 2 of 2", x.set(lane, 2, 1), PLACE);
            CHECK.due("place -1", x.set(lane, -1, 1), PLACE);
            CHECK.due("most place", x.set(lane, MAX, 1), PLACE);
            CHECK.due("least place", x.set(lane, MIN, 1), PLACE);
        }
        x.row(3, 0, 0);
        CHECK.due("place 0 of none", x.set(3, 0, 1), PLACE);
    }

    private static void copiesItems() {
        HedgeGate x = new HedgeGate();
        x.row(0, 1, 4);
        x.row(1, 1, 6);
        x.row(2, 2, 4);
        CHECK.due("row -1", x.copy(-1, 0, 1, 0, 1), HedgeGate.BAD);
        CHECK.due("row 8", x.copy(0, 0, 8, 0, 1), HedgeGate.BAD);
        CHECK.due("bad ahead of missing", x.copy(7, 0, 8, 0, 1), HedgeGate.BAD);
        CHECK.due("from a missing one", x.copy(7, -1, 2, 0, 1), NULL);
        CHECK.due("to a missing one", x.copy(0, 0, 7, -1, 1), NULL);
        CHECK.due("two lanes", x.copy(0, 0, 2, 0, 1), STORE);
        CHECK.due("two lanes ahead of places", x.copy(0, -1, 2, 9, -1), STORE);
        CHECK.due("two lanes, no item", x.copy(2, 0, 1, 0, 0), STORE);
        int[][] beyond = {{-1, 0, 1}, {0, -1, 1}, {0, 0, -1}, {4, 0, 1}, {0, 6, 1}, {1, 0, 4}, {0, 3, 4},
            {5, 0, 0}, {0, 7, 0}, {MAX, 0, 1}, {0, MAX, 1}, {1, 1, MAX}, {MAX, MAX, MAX}, {MIN, 0, 1},
            {0, MIN, 1}, {0, 0, MIN}};
        for (int[] b : beyond) {
            CHECK.due("copy " + b[0] + " " + b[1] + " " + b[2], x.copy(0, b[0], 1, b[1], b[2]), PLACE);
        }
        CHECK.due("all", x.copy(0, 0, 1, 2, 4), 4);
        CHECK.due("none at the ends", x.copy(0, 4, 1, 6, 0), 0);
        CHECK.due("none at the beginnings", x.copy(0, 0, 1, 0, 0), 0);
    }

    private static void copiesWithinOneRow() {
        HedgeGate x = Check.gate(OPEN);
        x.row(0, 0, 5);
        x.row(1, 0, 5);
        for (int i = 0; i < 5; i++) {
            x.set(0, i, i);
        }
        CHECK.due("to another row", x.copy(0, 0, 1, 0, 5), 5);
        CHECK.due("upwards", x.copy(0, 0, 0, 1, 4), 4);
        CHECK.due("0 0 1 2 3: twice 0", x.goneBy(0, 0, 2), HedgeGate.BAD);
        CHECK.due("0 0 1 2 3: from 1 on", x.goneBy(0, 1, 4), 1);
        CHECK.due("downwards", x.copy(1, 1, 1, 0, 4), 4);
        CHECK.due("1 2 3 4 4: the first four", x.goneBy(1, 0, 4), 1);
        CHECK.due("1 2 3 4 4: twice 4", x.goneBy(1, 3, 2), HedgeGate.BAD);
        CHECK.due("from row to row", x.copy(1, 3, 0, 0, 1), 1);
        CHECK.due("4 0 1 2 3", x.goneBy(0, 0, 5), 1);
    }

    private static void dropsRows() {
        HedgeGate x = new HedgeGate();
        CHECK.due("row 8", x.drop(8), HedgeGate.BAD);
        CHECK.due("row -1", x.drop(-1), HedgeGate.BAD);
        CHECK.due("a missing one", x.drop(3), NULL);
        x.row(3, 1, 17);
        x.row(4, 1, 0);
        CHECK.due("rows", x.count(0), 2);
        CHECK.due("17 items", x.drop(3), 17);
        CHECK.due("no item", x.drop(4), 0);
        CHECK.due("rows", x.count(0), 0);
        CHECK.due("again", x.drop(3), NULL);
        CHECK.due("set of a dropped one", x.set(3, 0, 0), NULL);
    }

    private static void tellsStatus() {
        HedgeGate x = new HedgeGate();
        x.drop(0);
        CHECK.due("status", x.status(), 1);
        x.row(9, 0, 0);
        CHECK.due("a BAD one leaves it", x.status(), 1);
        x.goneBy(0, 0, 0);
        CHECK.due("a STATE leaves it", x.status(), 1);
        x.feed(1);
        x.count(0);
        CHECK.due("calls without a row leave it", x.status(), 1);
        x.row(0, 0, -4);
        CHECK.due("status", x.status(), 4);
        x.row(0, 0, 4);
        CHECK.due("none", x.status(), 0);
        x.set(0, 4, 1);
        CHECK.due("status", x.status(), 2);
        x.set(0, 3, 1);
        CHECK.due("none", x.status(), 0);
        x.row(1, 1, 4);
        x.copy(0, 0, 1, 0, 0);
        CHECK.due("status", x.status(), 5);
        x.copy(0, 0, 0, 0, 0);
        CHECK.due("none", x.status(), 0);
        x.drop(5);
        CHECK.due("status", x.status(), 1);
        x.drop(1);
        CHECK.due("none", x.status(), 0);
    }
}
