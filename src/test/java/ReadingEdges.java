/** The edges of promises 6 to 8, and of the texts that the Terms tell. */
final class ReadingEdges {
    private static final int NONE = HedgeGate.NONE, BAD = HedgeGate.BAD, STATE = HedgeGate.STATE;
    private static final int FULL = HedgeGate.FULL;
    private static final int MAX = Integer.MAX_VALUE, MIN = Integer.MIN_VALUE;
    private static final String LAW = "h1,0,0,0,0;";
    private static final String EIGHT = LAW + "p0;".repeat(8);
    private static final String FULL_HEDGE = EIGHT + "t1;".repeat(5);

    private final Edges e;

    ReadingEdges(Edges edges) {
        e = edges;
    }

    void go() {
        theTape();
        theTokens();
        theOrder();
        theLaw();
        behindEachCase();
        words();
        travellers();
        aHedgeInPlaceOfAnother();
        theFirstFault();
        theLeastFault();
        whatCannotStandThere();
        longRunsAndTheEnd();
        numbersNotAsTold();
        noRoom();
        feeding();
        reading();
        faults();
    }

    private void sound(String text, int travellers) {
        HedgeGate x = new HedgeGate();
        Check.feed(x, text);
        e.due("hedge of " + text, x.hedge(), travellers);
        e.due("fault of " + text, x.fault(), 0);
    }

    private void faulty(String text, int place, int fault) {
        HedgeGate x = new HedgeGate();
        Check.feed(x, text);
        e.due("hedge of " + text, x.hedge(), -1000100 - place);
        e.due("fault of " + text, x.fault(), fault);
        e.due("no hedge by " + text, x.talk(-1), STATE);
    }

    private void theTape() {
        e.sentence(Edges.TERMS, "THE TAPE has at most 120 bytes");
        HedgeGate x = new HedgeGate();
        for (int n = 1; n <= 120; n++) {
            e.due("byte " + n, x.feed(n == 1 ? 'h' : '1'), n);
        }
        for (int n = 121; n <= 123; n++) {
            e.due("byte " + n, x.feed(';'), FULL);
        }
        e.due("bytes", x.count(8), 120);
        e.due("all of it is read", x.hedge(), -1000101);
        e.due("a run to its end is none", x.fault(), 1);
        e.due("empty then", x.count(8), 0);
        for (int n = 1; n <= 120; n++) {
            x.feed(n < 14 ? "h1,0,0,0,0;p0".charAt(n - 1) : n < 15 ? ';' : 'x');
        }
        e.due("full anew", x.feed(0), FULL);
        e.due("read anew", x.hedge(), -1000114);
    }

    private void theTokens() {
        e.sentence(Edges.TERMS, "letters a to z (each by itself)");
        faulty("hh1,0,0,0,0;", 1, 1);
        faulty(LAW + "pi0;", 12, 1);
        faulty(LAW + "p0;tt1;", 15, 1);
        e.sentence(Edges.TERMS, "NUMBERS (figures, 3 at most)");
        sound("h001,000,015,007,000;p003;t001;", 1);
        sound("h024,15,15,15,15;" + "p3;".repeat(8) + "t255;", 1);
        faulty("h0001,0,0,0,0;", 1, 1);
        faulty("h1,0000,0,0,0;", 3, 1);
        faulty(LAW + "p0000;", 12, 1);
        faulty(LAW + "p0;t0001;", 15, 1);
        e.sentence(Edges.TERMS, "SIGNS , and ; nothing else, no blanks");
        for (int letter = 0; letter < 256; letter++) {
            int place = letter == 'h' ? 1 : 0;
            faulty("" + (char) letter, place, 1);
            headOfAWord(letter);
            sign("h1", ',', letter, 3);
            sign("h1,0,0,0,0", ';', letter, 11);
        }
        for (String blank : new String[] {" ", "\n", "\t", "\r", "" + (char) 0, "" + (char) 160}) {
            faulty(blank + LAW, 0, 1);
            faulty("h" + blank + "1,0,0,0,0;", 1, 1);
            faulty("h1" + blank + ",0,0,0,0;", 2, 1);
            faulty("h1," + blank + "0,0,0,0;", 3, 1);
            faulty(LAW + blank, 11, 1);
            faulty(LAW + "p" + blank + "0;", 12, 1);
        }
    }

    /** Behind a law come the letter of a word, a traveller's (what is missing then is at the end), or the end. */
    private void headOfAWord(int letter) {
        boolean mayStand = "piefnt".indexOf(letter) >= 0;
        faulty(LAW + (char) letter, mayStand ? 12 : 11, 1);
    }

    /** A figure goes on with the number ahead of it; the last sign of a law is followed by the end, which is sound. */
    private void sign(String ahead, char due, int letter, int end) {
        boolean figure = letter >= '0' && letter <= '9';
        String text = ahead + (char) letter;
        if (letter == due && due == ';') {
            sound(text, 0);
        } else {
            faulty(text, figure || letter == due ? end : end - 1, 1);
        }
    }

    private void theOrder() {
        e.sentence(Edges.TERMS, "hedge: law { word } { traveller }");
        sound(LAW, 0);
        sound(LAW + "p0;", 0);
        sound(EIGHT, 0);
        sound(LAW + "p0;t1;", 1);
        sound(FULL_HEDGE, 5);
        faulty("", 0, 1);
        faulty("p0;", 0, 1);
        faulty("t1;", 0, 1);
        faulty(LAW + LAW, 11, 1);
        faulty(LAW + "p0;t1;p0;", 17, 1);
        faulty(LAW + "p0;" + LAW, 14, 1);
        faulty(LAW + "p0;t1;" + LAW, 17, 1);
    }

    private void theLaw() {
        e.sentence(Edges.TERMS, "h MEMORY , BEHIND of CASE 0 , of 1 , of 2 , of 3 ; (1 to 24;");
        sound("h1,0,0,0,0;", 0);
        sound("h24,0,0,0,0;", 0);
        faulty("h0,0,0,0,0;", 1, 2);
        faulty("h25,0,0,0,0;", 1, 2);
        faulty("h999,0,0,0,0;", 1, 2);
        faulty("h1,0,0,0;", 8, 1);
        faulty("h1;", 2, 1);
        faulty("h1,0,0,0,0,0;", 10, 1);
        e.sentence(Edges.TERMS, "each a set of CASES 0 to 3, 0 to 15)");
        for (int c = 0; c < 4; c++) {
            sound(lawWith(c, "15"), 0);
            faulty(lawWith(c, "16"), 3 + 2 * c, 2);
            faulty(lawWith(c, "999"), 3 + 2 * c, 2);
            faulty(lawWith(c, ""), 3 + 2 * c, 1);
        }
    }

    private static String lawWith(int place, String set) {
        StringBuilder law = new StringBuilder("h1");
        for (int c = 0; c < 4; c++) {
            law.append(',').append(c == place ? set : "0");
        }
        return law.append(';').toString();
    }

    private void behindEachCase() {
        for (int c = 0; c < 4; c++) {
            for (int set = 0; set < 16; set++) {
                HedgeGate x = Check.gate(lawWith(c, "" + set) + "f0;f1;f2;f3;t15;t15;");
                x.asks(0, c);
                e.due("behind case " + c + " by " + set, x.can(1), set);
            }
        }
    }

    private void words() {
        e.sentence(Edges.TERMS, "(SORT: p a plain one, i an if, e an echo, f a foreign one, n a no; 0 to 3;");
        for (int kind = 1; kind <= 5; kind++) {
            for (int c = 0; c < 4; c++) {
                HedgeGate x = Check.gate(LAW + "piefn".charAt(kind - 1) + c + ";");
                e.due("kind", x.kind(0), kind);
                e.due("case", x.word(0, 0), c);
            }
            faulty(LAW + "piefn".charAt(kind - 1) + "4;", 12, 2);
            faulty(LAW + "piefn".charAt(kind - 1) + "999;", 12, 2);
            faulty(LAW + "piefn".charAt(kind - 1) + ";", 12, 1);
        }
        e.sentence(Edges.TERMS, "WORDS 0 .. 7, 8 at most)");
        HedgeGate x = Check.gate(LAW + "p0;p1;p2;p3;i3;i2;i1;i0;");
        e.due("words", x.count(1), 8);
        int[] cases = {0, 1, 2, 3, 3, 2, 1, 0};
        for (int w = 0; w < 8; w++) {
            e.due("word " + w, x.word(w, 0), cases[w]);
        }
        e.due("word 8", x.word(8, 0), BAD);
        faulty(EIGHT + "p0;", 35, 3);
        faulty(EIGHT + "p0;".repeat(20), 35, 3);
    }

    private void travellers() {
        e.sentence(Edges.TERMS, "(bits of WORDS told, one at least;");
        for (int words = 1; words <= 8; words++) {
            String told = LAW + "p0;".repeat(words);
            int most = (1 << words) - 1;
            sound(told + "t1;", 1);
            sound(told + "t" + most + ";", 1);
            faulty(told + "t0;", told.length() + 1, 2);
            faulty(told + "t000;", told.length() + 1, 2);
            faulty(told + "t" + (most + 1) + ";", told.length() + 1, 2);
            faulty(told + "t999;", told.length() + 1, 2);
        }
        faulty(LAW + "t0;", 12, 2);
        faulty(LAW + "t1;", 12, 2);
        e.sentence(Edges.TERMS, "TRAVELLERS 0 .. 4, 5 at most)");
        HedgeGate x = Check.gate(EIGHT + "t1;t2;t4;t128;t255;");
        e.due("travellers", x.count(2), 5);
        int[] sets = {1, 2, 4, 128, 255};
        for (int t = 0; t < 5; t++) {
            e.due("traveller " + t, x.traveller(t, 0), sets[t]);
        }
        e.due("traveller 5", x.traveller(5, 0), BAD);
        faulty(FULL_HEDGE + "t1;", 50, 3);
        faulty(FULL_HEDGE + "t1;".repeat(9), 50, 3);
    }

    private void aHedgeInPlaceOfAnother() {
        e.sentence(Edges.TERMS, "A HEDGE that is read stands in place of the one before (none at first): HOUR 0, nothing "
            + "was ASKED, nobody has PASSED, nobody may FOLLOW; no ACT can be undone; IMAGES and ROWS stay.");
        String same = "h9,15,15,15,15;i0;p1;t3;t3;t3;";
        HedgeGate x = Check.gate(same);
        x.row(0, 1, 3);
        x.set(0, 1, 2);
        x.waits(5);
        x.image(0);
        x.asks(0, 0);
        x.asks(1, 1);
        e.due("the same text", Check.read(x, same), 3);
        e.due("hour", x.count(3), 0);
        e.due("case", x.count(4), -1);
        e.due("may follow", x.count(5), 0);
        e.due("nobody follows", x.follows(2), STATE);
        e.due("passed", x.count(6), 0);
        e.due("acts", x.count(7), 0);
        e.due("undo", x.undo(), STATE);
        for (int w = 0; w < 2; w++) {
            e.due("asked last", x.word(w, 1), NONE);
            e.due("asked", x.word(w, 2), 0);
            e.due("may", x.word(w, 3), 1);
        }
        for (int t = 0; t < 3; t++) {
            e.due("passed", x.traveller(t, 1), 0);
            e.due("by", x.traveller(t, 2), NONE);
        }
        e.due("a shorter hedge", Check.read(x, "h1,0,0,0,0;n3;t1;"), 1);
        e.due("words", x.count(1), 1);
        e.due("the words before are gone", x.kind(1), BAD);
        e.due("the travellers before are gone", x.can(1), BAD);
        e.due("case", x.word(0, 0), 3);
        e.due("kind", x.kind(0), 5);
        e.due("set", x.traveller(0, 0), 1);
        e.due("a law alone", Check.read(x, LAW), 0);
        e.due("no words", x.count(1), 0);
        e.due("no travellers", x.count(2), 0);
        e.due("it stands", x.plan(-1), 0);
        e.due("rows stay", x.count(0), 1);
        e.due("images stay", x.restore(0), 1);
        e.due("its hour", x.count(3), 5);
        e.due("the row's item", x.goneBy(0, 1, 1), 2);
        e.due("the row's lane", x.set(0, 2, 70000), 4464);
    }

    private void theFirstFault() {
        e.sentence(Edges.TERMS, "the first TOKEN that has one (its first byte)");
        faulty("h25,16,16,16,16;", 1, 2);
        faulty("h1,016,99,x", 3, 2);
        faulty("h1,15,15,15,099;p4;", 12, 2);
        faulty(LAW + "p4;p0000;", 12, 2);
        faulty(LAW + "p0;t0;t0;", 15, 2);
        faulty(LAW + "p123;", 12, 2);
        faulty(LAW + "p9x", 12, 2);
        faulty(LAW + "px9", 12, 1);
        // what comes behind a fault would have others, if it were read on
        faulty("h" + "p".repeat(30), 1, 1);
        faulty("h0" + "p0;".repeat(9) + "t1;".repeat(6), 1, 2);
        faulty("x" + FULL_HEDGE + "t", 0, 1);
        faulty(LAW + "p4;" + "p0;".repeat(9), 12, 2);
        faulty(EIGHT + "t0;" + "t1;".repeat(6), 36, 2);
        faulty(EIGHT + "p0;t0;", 35, 3);
    }

    private void theLeastFault() {
        e.sentence(Edges.TERMS, "of one TOKEN the least");
        // a fifth figure would make a number that is not as told, too; a word behind travellers has no room, too
        faulty("h99999", 1, 1);
        faulty(LAW + "p9999;", 12, 1);
        faulty(EIGHT + "t1;p0;", 38, 1);
        faulty(FULL_HEDGE + "p0;", 50, 1);
        faulty(FULL_HEDGE + "h", 50, 1);
    }

    private void whatCannotStandThere() {
        e.sentence(Edges.TERMS, "1 it cannot stand there, or is none");
        faulty("1", 0, 1);
        faulty(";", 0, 1);
        faulty("h,", 1, 1);
        faulty("h;", 1, 1);
        faulty("hp", 1, 1);
        faulty("h1;", 2, 1);
        faulty("h1h", 2, 1);
        faulty("h1,0;", 4, 1);
        faulty("h1,0,0,0,0,", 10, 1);
        faulty(LAW + ";", 11, 1);
        faulty(LAW + ",", 11, 1);
        faulty(LAW + "1", 11, 1);
        faulty(LAW + "p0,", 13, 1);
        faulty(LAW + "p0p", 13, 1);
        faulty(LAW + "p0;t1,", 16, 1);
        faulty(LAW + "p0;t1;t;", 18, 1);
        faulty(FULL_HEDGE + ";", 50, 1);
        faulty(FULL_HEDGE + "1", 50, 1);
        faulty(FULL_HEDGE + " ", 50, 1);
        faulty("H1,0,0,0,0;", 0, 1);
        faulty(LAW + "P0;", 11, 1);
    }

    private void longRunsAndTheEnd() {
        e.sentence(Edges.TERMS, "(a run of four figures or more, at its first;");
        faulty("0001", 0, 1);
        faulty("h0001", 1, 1);
        faulty("h00001,0,0,0,0;", 1, 1);
        faulty("h1,0,0,0,0000;", 9, 1);
        faulty("h1,0,0,0,0;0000", 11, 1);
        faulty(LAW + "p0;t0001;", 15, 1);
        faulty("h" + "0".repeat(119), 1, 1);
        e.sentence(Edges.TERMS, "the end: how many bytes there are)");
        String whole = "h10,11,12,13,14;p0;i1;t3;t01;";
        int[] soundEnds = {16, 19, 22, 25, 29};
        for (int n = 0; n < whole.length(); n++) {
            boolean isSound = java.util.Arrays.binarySearch(soundEnds, n) >= 0;
            if (isSound) {
                sound(whole.substring(0, n), n > 22 ? 1 : 0);
            } else if (n == 27) {
                // what stands at the end there is a set of no word
                faulty(whole.substring(0, n), 26, 2);
            } else {
                faulty(whole.substring(0, n), n, 1);
            }
        }
        sound(whole, 2);
    }

    private void numbersNotAsTold() {
        e.sentence(Edges.TERMS, "2 a NUMBER that is not as told");
        faulty("h0", 1, 2);
        faulty("h00", 1, 2);
        faulty("h25", 1, 2);
        faulty("h100", 1, 2);
        faulty("h1,16", 3, 2);
        faulty(LAW + "e4", 12, 2);
        faulty(LAW + "p0;p0;t4", 18, 2);
        faulty(LAW + "p0;p0;t0", 18, 2);
        faulty(LAW + "t1", 12, 2);
    }

    private void noRoom() {
        e.sentence(Edges.TERMS, "3 a word, a traveller more than there is room for (its letter)");
        for (int kind = 0; kind < 5; kind++) {
            faulty(EIGHT + "piefn".charAt(kind), 35, 3);
            faulty(EIGHT + "piefn".charAt(kind) + "9;", 35, 3);
        }
        faulty(FULL_HEDGE + "t", 50, 3);
        faulty(FULL_HEDGE + "t0;", 50, 3);
        faulty(FULL_HEDGE + "tx", 50, 3);
    }

    private void feeding() {
        e.sentence(6, "A byte (0 to 255) comes behind the tape: how many it has.");
        HedgeGate x = new HedgeGate();
        e.due("the least byte", x.feed(0), 1);
        e.due("the most", x.feed(255), 2);
        e.due("bytes", x.count(8), 2);
        for (int letter = 1; letter < 119; letter++) {
            e.due("byte " + letter, x.feed(letter), letter + 2);
        }
        HedgeGate y = new HedgeGate();
        y.feed('h');
        y.feed('1');
        e.due("what comes first is read first", y.hedge(), -1000102);
        e.sentence(6, "BAD; FULL.");
        e.due("-1", x.feed(-1), BAD);
        e.due("BAD ahead of FULL", x.feed(256), BAD);
        e.due("FULL", x.feed(0), FULL);
        e.due("FULL", x.feed(255), FULL);
        e.due("bytes", x.count(8), 120);
        for (int letter : new int[] {-1, 256, MAX, MIN}) {
            e.due("byte " + letter, y.feed(letter), BAD);
            e.due("no byte came", y.count(8), 0);
        }
    }

    private void reading() {
        e.sentence(7, "The tape, empty then, is read: how many TRAVELLERS there are.");
        for (int travellers = 0; travellers <= 5; travellers++) {
            HedgeGate x = new HedgeGate();
            Check.feed(x, LAW + "p0;" + "t1;".repeat(travellers));
            e.due("travellers", x.hedge(), travellers);
            e.due("empty", x.count(8), 0);
            e.due("an empty tape is no hedge", x.hedge(), -1000100);
            e.due("the hedge stays", x.count(2), travellers);
        }
        HedgeGate y = Check.gate("h24,15,15,15,15;p0;p1;t3;");
        e.due("nothing is left of the tape before", Check.read(y, "h24,15,15,15,15;"), 0);
        e.due("no word", y.count(1), 0);
        e.due("nor of its figures", Check.read(y, "h2"), -1000102);
        Check.read(y, "h0024");
        e.due("nor of its run", Check.read(y, "h002"), -1000104);
        Check.read(y, LAW + "p0;t1;");
        e.due("nor of its last sign", Check.read(y, LAW + "p0;t1"), -1000116);
        e.sentence(7, "-1000100 less the place of a FAULT: all stays, but the tape is empty then, and fault() tells this one.");
        HedgeGate z = Check.gate(Look.TELLING);
        z.asks(0, 0);
        z.waits(2);
        Check.feed(z, "h24,1,2,3,4;n3;n2;t4;");
        e.due("a fault", z.hedge(), -1000119);
        e.due("empty", z.count(8), 0);
        e.due("told", z.fault(), 2);
        e.due("words", z.count(1), 5);
        e.due("kind", z.kind(0), 4);
        e.due("case", z.word(0, 0), 0);
        e.due("set", z.traveller(0, 0), 1);
        e.due("hour", z.count(3), 3);
        e.due("acts", z.count(7), 2);
        e.due("law", z.can(4), 31);
        e.due("the least place", Check.read(z, "x"), -1000100);
        e.due("told", z.fault(), 1);
        e.due("undo", z.undo(), 1);
        e.due("undo", z.undo(), 0);
        e.due("passed", z.traveller(0, 1), 0);
    }

    private void faults() {
        e.sentence(8, "The number of the latest FAULT (a HEDGE that is read leaves it); 0 before one.");
        HedgeGate x = new HedgeGate();
        e.due("before one", x.fault(), 0);
        Check.read(x, LAW);
        e.due("a hedge has none", x.fault(), 0);
        x.feed(-1);
        x.waits(0);
        e.due("what is refused is none", x.fault(), 0);
        int[] numbers = {3, 1, 2, 2, 3, 1};
        for (int number : numbers) {
            Check.read(x, number == 1 ? "" : number == 2 ? "h0" : EIGHT + "p");
            e.due("the latest", x.fault(), number);
            e.due("a hedge is read", Check.read(x, LAW), 0);
            e.due("it leaves it", x.fault(), number);
        }
        x.image(0);
        x.restore(0);
        e.due("an image leaves it", x.fault(), 1);
    }
}
