/** Promises 6 to 8: the tape, the texts, the faults. */
public final class ReadingTest {
    private static final Check CHECK = new Check("reading");
    private static final String LAW = "h1,0,0,0,0;";
    private static final String EIGHT = LAW + "p0;".repeat(8);

    public static void main(String[] args) {
        feedsBytes();
        readsTexts();
        faultsOfTheLaw();
        faultsOfWords();
        faultsOfTravellers();
        bytesThatAreNoTokens();
        keepsTheLatestFault();
        aFaultLeavesAll();
        aNewHedgeStandsInPlace();
        CHECK.end();
    }

    private static void sound(String text, int travellers) {
        HedgeGate x = new HedgeGate();
        Check.feed(x, text);
        CHECK.due(text, x.hedge(), travellers);
        CHECK.due(text + ": fault", x.fault(), 0);
        CHECK.due(text + ": tape", x.count(8), 0);
        CHECK.due(text + ": travellers", x.count(2), travellers);
    }

    private static void faulty(String text, int place, int fault) {
        HedgeGate x = new HedgeGate();
        Check.feed(x, text);
        CHECK.due(text, x.hedge(), -1000100 - place);
        CHECK.due(text + ": fault", x.fault(), fault);
        CHECK.due(text + ": tape", x.count(8), 0);
        CHECK.due(text + ": words", x.count(1), 0);
        CHECK.due(text + ": no hedge", x.waits(1), HedgeGate.STATE);
    }

    private static void feedsBytes() {
        HedgeGate x = new HedgeGate();
        CHECK.due("feed -1", x.feed(-1), HedgeGate.BAD);
        CHECK.due("feed 256", x.feed(256), HedgeGate.BAD);
        CHECK.due("feed 0", x.feed(0), 1);
        CHECK.due("feed 255", x.feed(255), 2);
        CHECK.due("hedge", x.hedge(), -1000100);
        for (int i = 1; i <= 120; i++) {
            CHECK.due("feed " + i, x.feed('h'), i);
        }
        CHECK.due("byte 121", x.feed('h'), HedgeGate.FULL);
        CHECK.due("BAD ahead of FULL", x.feed(256), HedgeGate.BAD);
        CHECK.due("bytes", x.count(8), 120);
        CHECK.due("hedge", x.hedge(), -1000101);
        CHECK.due("bytes", x.count(8), 0);
        CHECK.due("feed again", x.feed('h'), 1);
    }

    private static void readsTexts() {
        sound(LAW, 0);
        sound("h24,15,15,15,15;", 0);
        sound("h001,000,015,07,0;", 0);
        sound(LAW + "p0;t1;", 1);
        sound(LAW + "p00;i001;e2;f3;n0;t31;t001;", 2);
        sound(EIGHT + "t255;t128;t1;t10;t100;", 5);
        HedgeGate x = Check.gate("h9,1,2,3,4;p0;i1;e2;f3;n0;t31;t16;");
        CHECK.due("words", x.count(1), 5);
        for (int w = 0; w < 5; w++) {
            CHECK.due("case", x.word(w, 0), w % 4);
            CHECK.due("kind", x.kind(w), w + 1);
        }
        CHECK.due("set", x.traveller(0, 0), 31);
        CHECK.due("set", x.traveller(1, 0), 16);
    }

    private static void faultsOfTheLaw() {
        faulty("", 0, 1);
        faulty("p0;", 0, 1);
        faulty("1", 0, 1);
        faulty("H1,0,0,0,0;", 0, 1);
        faulty("h", 1, 1);
        faulty("h,", 1, 1);
        faulty("hh", 1, 1);
        faulty("h0,0,0,0,0;", 1, 2);
        faulty("h25,0,0,0,0;", 1, 2);
        faulty("h999,0,0,0,0;", 1, 2);
        faulty("h0001,0,0,0,0;", 1, 1);
        faulty("h12345", 1, 1);
        faulty("h1", 2, 1);
        faulty("h1;", 2, 1);
        faulty("h1,", 3, 1);
        faulty("h1,16,0,0,0;", 3, 2);
        faulty("h1,0,16,0,0;", 5, 2);
        faulty("h1,0,0,16,0;", 7, 2);
        faulty("h1,0,0,0,16;", 9, 2);
        faulty("h1,0,0,0,1234;", 9, 1);
        faulty("h1,0,0,0;", 8, 1);
        faulty("h1,0,0,0,0", 10, 1);
        faulty("h1,0,0,0,0,0;", 10, 1);
        faulty("h25,x", 1, 2);
        faulty("h1,,0", 3, 1);
    }

    private static void faultsOfWords() {
        faulty(LAW + "x", 11, 1);
        faulty(LAW + ";", 11, 1);
        faulty(LAW + "0", 11, 1);
        faulty(LAW + LAW, 11, 1);
        faulty(LAW + "p", 12, 1);
        faulty(LAW + "p;", 12, 1);
        faulty(LAW + "pp0;", 12, 1);
        faulty(LAW + "p4;", 12, 2);
        faulty(LAW + "p0000;", 12, 1);
        faulty(LAW + "p0", 13, 1);
        faulty(LAW + "p0,", 13, 1);
        faulty(LAW + "p0;i4;", 15, 2);
        faulty(EIGHT + "p0;", 35, 3);
        faulty(EIGHT + "n", 35, 3);
        faulty(EIGHT + "n9", 35, 3);
        faulty(EIGHT + "x", 35, 1);
    }

    private static void faultsOfTravellers() {
        faulty(LAW + "t1;", 12, 2);
        faulty(LAW + "t0;", 12, 2);
        faulty(LAW + "t;", 12, 1);
        faulty(LAW + "p0;t0;", 15, 2);
        faulty(LAW + "p0;t2;", 15, 2);
        faulty(LAW + "p0;t1000;", 15, 1);
        faulty(LAW + "p0;t1", 16, 1);
        faulty(LAW + "p0;t1,", 16, 1);
        faulty(LAW + "p0;t1;p0;", 17, 1);
        faulty(LAW + "p0;t1;x", 17, 1);
        faulty(LAW + "p0;t1;1", 17, 1);
        faulty(EIGHT + "t256;", 36, 2);
        String full = EIGHT + "t255;".repeat(5);
        faulty(full + "t1;", 60, 3);
        faulty(full + "t", 60, 3);
        faulty(full + "t999", 60, 3);
        faulty(full + "p0;", 60, 1);
        faulty(full + ";", 60, 1);
    }

    private static void bytesThatAreNoTokens() {
        faulty("h 1,0,0,0,0;", 1, 1);
        faulty("h1 ,0,0,0,0;", 2, 1);
        faulty(" " + LAW, 0, 1);
        faulty(LAW + "\n", 11, 1);
        faulty(LAW + (char) 0, 11, 1);
        faulty(LAW + (char) 255, 11, 1);
        faulty("h-1", 1, 1);
        faulty("h1.0", 2, 1);
        faulty("h1/", 2, 1);
        faulty("h1:", 2, 1);
        faulty(LAW + "P0;", 11, 1);
        faulty(LAW + "p0;T1;", 14, 1);
    }

    private static void keepsTheLatestFault() {
        HedgeGate x = new HedgeGate();
        CHECK.due("no fault yet", x.fault(), 0);
        Check.read(x, "h0");
        CHECK.due("fault", x.fault(), 2);
        Check.read(x, LAW);
        CHECK.due("a hedge that is read leaves it", x.fault(), 2);
        Check.read(x, EIGHT + "p");
        CHECK.due("fault", x.fault(), 3);
        Check.read(x, "");
        CHECK.due("fault", x.fault(), 1);
    }

    private static void aFaultLeavesAll() {
        HedgeGate x = Check.gate("h4,14,5,11,3;p0;i1;t3;t2;");
        x.asks(0, 1);
        x.waits(3);
        CHECK.due("a faulty text", Check.read(x, "h1,0,0,0,0;f3;n3;t2;t3;t4;"), -1000124);
        CHECK.due("fault", x.fault(), 2);
        CHECK.due("words", x.count(1), 2);
        CHECK.due("travellers", x.count(2), 2);
        CHECK.due("hour", x.count(3), 4);
        CHECK.due("case", x.count(4), 1);
        CHECK.due("may follow", x.count(5), 1);
        CHECK.due("passed", x.count(6), 1);
        CHECK.due("acts", x.count(7), 2);
        CHECK.due("kind", x.kind(0), 1);
        CHECK.due("undo", x.undo(), 1);
        CHECK.due("hour", x.count(3), 1);
    }

    private static void aNewHedgeStandsInPlace() {
        HedgeGate x = Check.gate("h4,14,5,11,3;p0;i1;t3;t2;");
        x.row(2, 2, 2);
        x.asks(0, 1);
        x.image(1);
        CHECK.due("another", Check.read(x, "h4,15,15,15,15;n2;p1;e3;t7;"), 1);
        int[] counts = {1, 3, 1, 0, -1, 0, 0, 0, 0};
        for (int what = 0; what < counts.length; what++) {
            CHECK.due("count " + what, x.count(what), counts[what]);
        }
        CHECK.due("undo", x.undo(), HedgeGate.STATE);
        for (int w = 0; w < 3; w++) {
            CHECK.due("never asked", x.word(w, 1), HedgeGate.NONE);
            CHECK.due("asked", x.word(w, 2), 0);
        }
        CHECK.due("passed", x.traveller(0, 2), HedgeGate.NONE);
        CHECK.due("images stay", x.restore(1), 1);
        CHECK.due("hour", x.count(3), 1);
        CHECK.due("passed", x.traveller(0, 2), 1);
    }
}
