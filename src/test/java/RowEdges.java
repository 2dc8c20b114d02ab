/** The edges of promises 1 to 5. */
final class RowEdges {
    private static final int NONE = HedgeGate.NONE, BAD = HedgeGate.BAD, STATE = HedgeGate.STATE;
    private static final int NULL = -1000011, PLACE = -1000012, SIZE = -1000014, STORE = -1000015;
    private static final int MAX = Integer.MAX_VALUE, MIN = Integer.MIN_VALUE;
    private static final int[] NO_ROWS = {-1, 8, MAX, MIN};

    private final Edges e;

    RowEdges(Edges edges) {
        e = edges;
    }

    void go() {
        aNewObject();
        rowsAtFirst();
        newRows();
        refusedRows();
        setItems();
        refusedSettings();
        copies();
        refusedCopies();
        copiesBeyondAnEnd();
        drops();
    }

    private void aNewObject() {
        e.sentence(1, "No HEDGE.");
        HedgeGate x = new HedgeGate();
        e.due("words", x.count(1), 0);
        e.due("travellers", x.count(2), 0);
        e.due("hour", x.count(3), 0);
        e.due("case", x.count(4), -1);
        e.due("who may follow", x.count(5), 0);
        e.due("who passed", x.count(6), 0);
        e.due("acts", x.count(7), 0);
        e.due("bytes", x.count(8), 0);
        e.due("no word", x.kind(0), BAD);
        e.due("no traveller", x.can(0), BAD);
        e.due("nothing to plan", x.plan(-1), STATE);
        e.due("nothing to keep", x.image(0), STATE);
        e.due("nothing kept", x.restore(0), STATE);
        e.due("nothing to undo", x.undo(), STATE);
        e.due("no fault", x.fault(), 0);
        e.due("no finding", x.status(), 0);
        e.due("no trace", x.trace(0), NONE);
        HedgeGate y = Check.gate(Look.TELLING);
        y.row(0, 0, 1);
        HedgeGate z = new HedgeGate();
        e.due("objects have nothing in common: words", z.count(1), 0);
        e.due("objects have nothing in common: rows", z.count(0), 0);
    }

    private void rowsAtFirst() {
        e.sentence(Edges.TERMS, "ROWS 0 .. 7 are missing (at first)");
        HedgeGate x = new HedgeGate();
        e.due("rows", x.count(0), 0);
        for (int row = 0; row < 8; row++) {
            e.due("row " + row, x.drop(row), NULL);
        }
        e.sentence(Edges.TERMS, "a LANE (0 bytes, 1 shorts, 2 ints)");
        for (int lane = 0; lane < 3; lane++) {
            x.row(lane, lane, 1);
        }
        e.due("bytes", x.set(0, 0, 0x12345678), 0x78);
        e.due("shorts", x.set(1, 0, 0x12345678), 0x5678);
        e.due("ints", x.set(2, 0, 0x12345678), 0x12345678);
        e.sentence(Edges.TERMS, "0 to 40 ITEMS, 0 at first");
        HedgeGate y = Check.gate(Look.TELLING);
        for (int lane = 0; lane < 3; lane++) {
            e.due("no item", y.row(lane, lane, 0), 0);
            e.due("no item, no place", y.set(lane, 0, 0), PLACE);
            e.due("40 items", y.row(lane, lane, 40), 40);
            for (int i = 0; i < 40; i++) {
                e.due("item " + i + " of lane " + lane, Look.item(y, lane, i), 0);
            }
        }
    }

    private void newRows() {
        e.sentence(2, "A ROW of a LANE with n ITEMS, in place of what is there: n.");
        HedgeGate x = Check.gate(Look.TELLING);
        e.due("the least row", x.row(0, 0, 0), 0);
        e.due("one item", x.row(1, 0, 1), 1);
        e.due("40 items in the last row", x.row(7, 2, 40), 40);
        e.due("rows", x.count(0), 3);
        e.due("its last place", x.set(7, 39, 3), 3);
        e.due("its first place", x.set(7, 0, 4), 4);
        e.due("again", x.row(7, 2, 40), 40);
        e.due("the items are new", Look.item(x, 7, 39), 0);
        e.due("the items are new", Look.item(x, 7, 0), 0);
        e.due("shorter", x.row(7, 0, 2), 2);
        e.due("its places are fewer", x.set(7, 2, 0), PLACE);
        e.due("its lane is another", x.set(7, 1, 200), -56);
        e.due("the same rows", x.count(0), 3);
        e.due("longer", x.row(7, 1, 3), 3);
        e.due("the items are new", Look.item(x, 7, 1), 0);
        e.due("the items are new", Look.item(x, 7, 2), 0);
        x.row(6, 0, 2);
        x.set(6, 0, 1);
        x.row(5, 0, 2);
        e.due("another row stays", Look.item(x, 6, 0), 1);
        e.due("in place of it by none", x.row(6, 0, 0), 0);
        e.due("it has none, but is not missing", x.drop(6), 0);
    }

    private void refusedRows() {
        e.sentence(2, "BAD: ROW, LANE, n above 40; SIZE.");
        HedgeGate x = new HedgeGate();
        for (int row : NO_ROWS) {
            e.due("row " + row, x.row(row, 0, 1), BAD);
            e.due("row ahead of SIZE " + row, x.row(row, 0, -1), BAD);
        }
        for (int lane : new int[] {-1, 3, MAX, MIN}) {
            e.due("lane " + lane, x.row(0, lane, 1), BAD);
            e.due("lane ahead of SIZE " + lane, x.row(0, lane, -1), BAD);
        }
        e.due("41 items", x.row(0, 0, 41), BAD);
        e.due("most items", x.row(0, 0, MAX), BAD);
        e.due("BAD is no finding", x.status(), 0);
        e.due("-1 items", x.row(0, 0, -1), SIZE);
        e.due("least items", x.row(0, 0, MIN), SIZE);
        e.due("SIZE is one", x.status(), 4);
        e.due("nothing was made", x.count(0), 0);
        x.row(0, 2, 3);
        x.row(0, 0, -1);
        x.row(0, 3, 1);
        x.row(0, 0, 41);
        e.due("what is there stays", x.set(0, 2, 300), 300);
        e.due("what is there stays", x.drop(0), 3);
    }

    private void setItems() {
        e.sentence(3, "ITEM i becomes v, its lowest bits, as many as the LANE has (read with their sign): what it is then.");
        HedgeGate x = Check.gate(Look.TELLING);
        int[][] bytes = {{0, 0}, {127, 127}, {128, -128}, {255, -1}, {256, 0}, {257, 1}, {-1, -1}, {-128, -128},
            {-129, 127}, {-256, 0}, {32768, 0}, {0x7fffff80, -128}, {MAX, -1}, {MIN, 0}};
        int[][] shorts = {{0, 0}, {128, 128}, {32767, 32767}, {32768, -32768}, {65535, -1}, {65536, 0}, {65537, 1},
            {-1, -1}, {-32768, -32768}, {-32769, 32767}, {MAX, -1}, {MIN, 0}};
        int[][] ints = {{0, 0}, {128, 128}, {32768, 32768}, {65536, 65536}, {-32769, -32769}, {MAX, MAX}, {MIN, MIN}};
        int[][][] lanes = {bytes, shorts, ints};
        for (int lane = 0; lane < 3; lane++) {
            x.row(lane, lane, 40);
            for (int[] v : lanes[lane]) {
                e.due("lane " + lane + ", first, " + v[0], x.set(lane, 0, v[0]), v[1]);
                e.due("lane " + lane + ", last, " + v[0], x.set(lane, 39, v[0]), v[1]);
            }
        }
        x.row(0, 0, 3);
        x.set(0, 1, 258);
        e.due("a byte is kept as it was cut", Look.item(x, 0, 1), 2);
        e.due("ahead of it nothing changes", Look.item(x, 0, 0), 0);
        e.due("behind it nothing changes", Look.item(x, 0, 2), 0);
        x.row(1, 1, 1);
        x.set(1, 0, 65540);
        e.due("a short is kept as it was cut", Look.item(x, 1, 0), 4);
        x.row(2, 2, 1);
        x.set(2, 0, 65540);
        e.due("an int is not cut", Look.item(x, 2, 0), BAD);
    }

    private void refusedSettings() {
        e.sentence(3, "BAD: ROW; NULL; PLACE.");
        HedgeGate x = new HedgeGate();
        for (int row : NO_ROWS) {
            e.due("row " + row, x.set(row, 0, 1), BAD);
        }
        e.due("missing", x.set(0, 0, 1), NULL);
        e.due("status", x.status(), 1);
        e.due("missing, ahead of PLACE", x.set(7, -1, 1), NULL);
        for (int lane = 0; lane < 3; lane++) {
            x.row(lane, lane, 2);
            for (int i : new int[] {-1, 2, 3, 39, 40, MAX, MIN}) {
                e.due("place " + i, x.set(lane, i, 1), PLACE);
                e.due("status", x.status(), 2);
            }
            e.due("the last place", x.set(lane, 1, 1), 1);
            e.due("status", x.status(), 0);
        }
        x.row(3, 0, 40);
        e.due("place 40 of 40", x.set(3, 40, 1), PLACE);
    }

    private HedgeGate countedRow(int row) {
        HedgeGate x = Check.gate(Look.TELLING);
        x.row(row, 0, 5);
        for (int i = 0; i < 5; i++) {
            x.set(row, i, i);
        }
        return x;
    }

    private void items(HedgeGate x, int row, int... want) {
        for (int i = 0; i < want.length; i++) {
            e.due("item " + i, Look.item(x, row, i), want[i]);
        }
    }

    private void copies() {
        e.sentence(4, "n ITEMS of a from i on come to b from j on, as they were ahead: n.");
        HedgeGate x = countedRow(2);
        e.due("upwards in one row", x.copy(2, 0, 2, 1, 4), 4);
        items(x, 2, 0, 0, 1, 2, 3);
        x = countedRow(2);
        e.due("downwards in one row", x.copy(2, 1, 2, 0, 4), 4);
        items(x, 2, 1, 2, 3, 4, 4);
        x = countedRow(2);
        e.due("onto themselves", x.copy(2, 0, 2, 0, 5), 5);
        items(x, 2, 0, 1, 2, 3, 4);
        x.row(3, 0, 7);
        e.due("to the end of another row", x.copy(2, 1, 3, 4, 3), 3);
        items(x, 3, 0, 0, 0, 0, 1, 2, 3);
        items(x, 2, 0, 1, 2, 3, 4);
        e.due("none", x.copy(3, 0, 2, 0, 0), 0);
        e.due("none from the end on", x.copy(3, 7, 2, 5, 0), 0);
        items(x, 2, 0, 1, 2, 3, 4);
        x.row(4, 0, 0);
        e.due("none of none", x.copy(4, 0, 4, 0, 0), 0);
        x.row(5, 2, 40);
        x.row(6, 2, 40);
        x.set(5, 39, MIN);
        e.due("forty", x.copy(5, 0, 6, 0, 40), 40);
        e.due("an item as it was", x.copy(6, 39, 6, 0, 1), 1);
        e.due("an item that is no traveller", Look.item(x, 6, 0), BAD);
    }

    private void refusedCopies() {
        e.sentence(4, "BAD: ROWS; NULL; STORE;");
        HedgeGate x = new HedgeGate();
        x.row(0, 0, 4);
        x.row(1, 1, 4);
        x.row(2, 2, 4);
        for (int row : NO_ROWS) {
            e.due("from row " + row, x.copy(row, 0, 0, 0, 1), BAD);
            e.due("to row " + row, x.copy(0, 0, row, 0, 1), BAD);
            e.due("from a missing one to row " + row, x.copy(7, 0, row, 0, 1), BAD);
            e.due("to a missing one from row " + row, x.copy(row, 0, 7, 0, 1), BAD);
        }
        e.due("from a missing one", x.copy(7, 0, 0, 0, 1), NULL);
        e.due("to a missing one", x.copy(0, 0, 7, 0, 1), NULL);
        e.due("a missing one onto itself", x.copy(7, 0, 7, 0, 0), NULL);
        e.due("NULL ahead of PLACE", x.copy(7, -1, 0, 99, -1), NULL);
        e.due("NULL ahead of PLACE", x.copy(0, -1, 7, 99, -1), NULL);
        e.due("NULL ahead of STORE: such a row was of another lane once", dropped(x), NULL);
        e.due("status", x.status(), 1);
        for (int a = 0; a < 3; a++) {
            for (int b = 0; b < 3; b++) {
                e.due("lane " + a + " to " + b, x.copy(a, 0, b, 0, 1), a == b ? 1 : STORE);
                e.due("status", x.status(), a == b ? 0 : 5);
            }
        }
        e.due("STORE by no item", x.copy(0, 0, 1, 0, 0), STORE);
        e.due("STORE ahead of PLACE", x.copy(0, -1, 1, 0, 1), STORE);
        e.due("STORE ahead of PLACE", x.copy(0, 0, 1, 5, 1), STORE);
        e.due("STORE ahead of PLACE", x.copy(0, 0, 1, 0, -1), STORE);
    }

    private static int dropped(HedgeGate x) {
        x.row(3, 1, 4);
        x.drop(3);
        return x.copy(0, 0, 3, 0, 1);
    }

    private void copiesBeyondAnEnd() {
        e.sentence(4, "PLACE (i, j, n below 0, or beyond an end)");
        HedgeGate x = countedRow(0);
        x.row(1, 0, 7);
        int[][] beyond = {{-1, 0, 1}, {-1, 0, 0}, {0, -1, 1}, {0, -1, 0}, {0, 0, -1}, {5, 7, -1}, {1, 1, -1}, {5, 0, 1},
            {0, 7, 1}, {1, 0, 5}, {0, 3, 5}, {0, 0, 6}, {6, 0, 0}, {0, 8, 0}, {MAX, 0, 0}, {0, MAX, 0}, {MAX, 0, 1},
            {0, MAX, 1}, {1, 0, MAX}, {1, 1, MAX}, {MAX, MAX, MAX}, {MIN, 0, 1}, {0, MIN, 1}, {0, 0, MIN},
            {MIN, MIN, MIN}, {MAX, 0, MIN}, {5, 0, MAX - 4}, {-5, 0, 6}};
        for (int[] b : beyond) {
            e.due("copy " + b[0] + " " + b[1] + " " + b[2], x.copy(0, b[0], 1, b[1], b[2]), PLACE);
            e.due("status", x.status(), 2);
        }
        items(x, 0, 0, 1, 2, 3, 4);
        items(x, 1, 0, 0, 0, 0, 0, 0, 0);
        e.due("to both ends", x.copy(0, 0, 1, 2, 5), 5);
        e.due("status", x.status(), 0);
    }

    private void drops() {
        e.sentence(5, "A ROW is missing from now on: how many ITEMS it had.");
        HedgeGate x = Check.gate(Look.TELLING);
        x.row(0, 0, 0);
        x.row(7, 2, 40);
        x.set(7, 0, 3);
        e.due("none", x.drop(0), 0);
        e.due("one row is left", x.count(0), 1);
        e.due("forty", x.drop(7), 40);
        e.due("no row is left", x.count(0), 0);
        e.due("set", x.set(7, 0, 0), NULL);
        e.due("goneBy", x.goneBy(7, 0, 0), NULL);
        e.due("copy", x.copy(7, 0, 7, 0, 0), NULL);
        e.due("made again", x.row(7, 2, 1), 1);
        e.due("its items are new", Look.item(x, 7, 0), 0);
        e.sentence(5, "BAD; NULL.");
        for (int row : NO_ROWS) {
            e.due("row " + row, x.drop(row), BAD);
        }
        e.due("missing at first", x.drop(3), NULL);
        e.due("status", x.status(), 1);
        e.due("dropped", x.drop(7), 1);
        e.due("status", x.status(), 0);
        e.due("dropped twice", x.drop(7), NULL);
    }
}
