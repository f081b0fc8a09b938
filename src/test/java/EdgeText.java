/** Section 1: the edges of the text, of its numbers and of its faults. */
final class EdgeText {
    private static final String PART = "Section 1";
    private final Edges edges;

    EdgeText(Edges edges) {
        this.edges = edges;
    }

    void run() {
        letters();
        cells();
        grounds();
        cellsFirstOnce();
        towers();
        falls();
        players();
        arms();
        boats();
        draughts();
        theGreatestCoast();
        figures();
        words();
        blanks();
        numbersSideBySide();
        firstLetterWithAFault();
        theEnd();
        theLeastFault();
        noWord();
        anotherWordFirst();
        eleventhGround();
        oneGroundAlone();
        cannotStandInTowers();
        cannotStandInPlayersAndBoats();
        longNumbers();
        numbersOutOfBounds();
        cellsThatThereAreNot();
        cellsAgain();
        oneTooMany();
        emptyTexts();
    }

    private static String many(String clause, int times) {
        return clause.repeat(times);
    }

    private void letters() {
        edges.of(PART, "is told in a text (240 letters at most)");
        String blanks = " ".repeat(235);
        edges.text("c0,0;" + blanks, 2, Edges.NONE);
        edges.text(blanks + "c0,0;", 2, Edges.NONE);
        edges.text(blanks + "c0,0;;", 2, Edges.NONE);
        edges.text(blanks + "c0,0", -11, 239);
        edges.text(blanks + "c0,0,", -11, 240);
    }

    private void cells() {
        edges.of(PART, "'c' H {',' H} ';' (2 to 10 CELLS side by side");
        edges.text("c0;", -11, 2);
        edges.text("c0,0;", 2, Edges.NONE);
        edges.text("c0,0,0;", 3, Edges.NONE);
        edges.text("c0,0,0,0,0,0,0,0,0;", 9, Edges.NONE);
        edges.text("c0,0,0,0,0,0,0,0,0,0;", 10, Edges.NONE);
        edges.text("c0,0,0,0,0,0,0,0,0,0,0;", -11, 20);
        edges.text("c0,0,0,0,0,0,0,0,0,0,0,0;", -11, 20);
    }

    private void grounds() {
        edges.of(PART, "GROUND H, 0 .. 60");
        edges.text("c0,60;", 2, Edges.NONE);
        edges.text("c60,0;", 2, Edges.NONE);
        edges.text("c61,0;", -12, 1);
        edges.text("c0,61;", -12, 3);
        edges.text("c0,0,0,0,0,0,0,0,0,60;", 10, Edges.NONE);
        edges.text("c0,0,0,0,0,0,0,0,0,61;", -12, 19);
        edges.text("c-1,0;", -11, 1);
        GurdyTide x = Check.on("c60,0;");
        edges.due("ground", x.cell(0, 0), 60);
        edges.due("ground", x.cell(1, 0), 0);
    }

    private void cellsFirstOnce() {
        edges.of(PART, "first, once");
        edges.text("c0,0;c0,0;", -13, 5);
        edges.text("p1;c0,0;", -11, 0);
        edges.text("c0,0;p1;", 2, Edges.NONE);
    }

    private void towers() {
        edges.of(PART, "6 TOWERS at most");
        edges.text("c0,0;" + many("t0 1;", 5), 2, Edges.NONE);
        edges.text("c0,0;" + many("t0 1;", 6), 2, Edges.NONE);
        edges.text("c0,0;" + many("t0 1;", 7), -13, 35);
        edges.due("five", Check.on("c0,0;" + many("t0 1;", 5)).told(1), 5);
        edges.due("six", Check.on("c0,0;" + many("t0 1;", 6)).told(1), 6);
        edges.due("none", Check.on("c0,0;").told(1), 0);
    }

    private void falls() {
        edges.of(PART, "FALLS by G a CELL, 1 .. 20");
        edges.text("c0,0;t0 0;", -12, 8);
        edges.text("c0,0;t0 1;", 2, Edges.NONE);
        edges.text("c0,0;t0 20;", 2, Edges.NONE);
        edges.text("c0,0;t0 21;", -12, 8);
        edges.due("G", Check.on("c0,0;t0 1;").tower(0, 1), 1);
        edges.due("G", Check.on("c0,0;t0 20;").tower(0, 1), 20);
    }

    private void players() {
        edges.of(PART, "6 PLAYERS at most");
        edges.text("c0,0;" + many("p1;", 5), 2, Edges.NONE);
        edges.text("c0,0;" + many("p1;", 6), 2, Edges.NONE);
        edges.text("c0,0;" + many("p1;", 7), -13, 23);
        edges.due("five", Check.on("c0,0;" + many("p1;", 5)).told(2), 5);
        edges.due("six", Check.on("c0,0;" + many("p1;", 6)).told(2), 6);
        edges.due("none", Check.on("c0,0;").told(2), 0);
    }

    private void arms() {
        edges.of(PART, "ARM A, 1 .. 9");
        edges.text("c0,0;p0;", -12, 6);
        edges.text("c0,0;p1;", 2, Edges.NONE);
        edges.text("c0,0;p9;", 2, Edges.NONE);
        edges.text("c0,0;p10;", -12, 6);
        edges.due("arm", Check.on("c0,0;p1;").player(0, 0), 1);
        edges.due("arm", Check.on("c0,0;p9;").player(0, 0), 9);
    }

    private void boats() {
        edges.of(PART, "4 BOATS at most");
        edges.text("c0,0;" + many("b1 0 1;", 3), 2, Edges.NONE);
        edges.text("c0,0;" + many("b1 0 1;", 4), 2, Edges.NONE);
        edges.text("c0,0;" + many("b1 0 1;", 5), -13, 33);
        edges.due("three", Check.on("c0,0;" + many("b1 0 1;", 3)).told(3), 3);
        edges.due("four", Check.on("c0,0;" + many("b1 0 1;", 4)).told(3), 4);
        edges.due("none", Check.on("c0,0;").told(3), 0);
    }

    private void draughts() {
        edges.of(PART, "DRAUGHT D, 1 .. 30, from CELL X to Y");
        edges.text("c0,0;b0 0 1;", -12, 6);
        edges.text("c0,0;b1 0 1;", 2, Edges.NONE);
        edges.text("c0,0;b30 0 1;", 2, Edges.NONE);
        edges.text("c0,0;b31 0 1;", -12, 6);
        edges.text("c0,0;b1 0 0;", 2, Edges.NONE);
        edges.text("c0,0;b1 1 0;", 2, Edges.NONE);
        edges.due("draught", Check.on("c0,0;b1 0 1;").boat(0, 0), 1);
        edges.due("draught", Check.on("c0,0;b30 0 1;").boat(0, 0), 30);
    }

    private void theGreatestCoast() {
        edges.of(PART, "4 BOATS at most");
        GurdyTide x = Check.on("c0,0,0,0,0,0,0,0,0,0;" + many("t9 1;", 6) + many("p1;", 6) + many("b30 9 0;", 4));
        edges.due("all six must sit", x.seats(9, 6, 1, Edges.NONE), 6);
        edges.due("the last at the last", x.seats(9, 6, 1, 5), 5);
        for (int p = 0; p < 6; p++) {
            edges.due("sit", x.sit(p, 5 - p), Edges.NONE);
        }
        // each winds 5 in five hours, and then no more
        edges.due("sea", x.sea(9, 100, 0), 30);
        edges.due("deepest", x.deepest(9, 100, 0), 5);
        edges.due("30 deep where it is, 24 ahead", x.comes(3), Edges.NONE);
        edges.due("slept", x.told(14), 63);
        edges.due("all are alike", x.look(), Edges.NONE);
        edges.due("leave", x.leave(0), 0);
        edges.due("strongest", x.cell(9, 3), Edges.NONE);
        x.hour(5);
        edges.due("strongest", x.cell(9, 3), 0);
        edges.due("none is aground", x.told(9), 0);
        edges.due("slope", x.told(6), 6);
        edges.due("its cell", x.told(7), 4);
        edges.due("leave, how much", x.leave(1), 5);
        edges.due("drift", x.drift(60), 65);
        edges.due("undo", x.undo(), 7);
        edges.due("keep", x.keep(1), 1);
        edges.due("goBack", x.goBack(1), 1);
        edges.due("send", x.send(3), 9);
    }

    private void figures() {
        edges.of(PART, "NUMBERS have one to three figures");
        edges.text("c,0;", -11, 1);
        edges.text("c7,07;", 2, Edges.NONE);
        edges.text("c007,060;", 2, Edges.NONE);
        edges.text("c0007,0;", -12, 1);
        edges.text("c0,0;t001 020;p009;b030 000 001;", 2, Edges.NONE);
        edges.text("c0,0;p0009;", -12, 6);
        GurdyTide x = Check.on("c7,07,007;");
        for (int c = 0; c < 3; c++) {
            edges.due("ground " + c, x.cell(c, 0), 7);
        }
    }

    private void words() {
        edges.of(PART, "a word is one letter");
        edges.text("cc0,0;", -11, 1);
        edges.text("c0,0;tt0 1;", -11, 6);
        edges.text("c0,0;pp1;", -11, 6);
        edges.text("c0,0;bb1 0 1;", -11, 6);
        edges.text("c0,0;;", -11, 5);
        edges.text("c0,,0;", -11, 3);
    }

    private void blanks() {
        edges.of(PART, "blanks (32) may stand anywhere but within NUMBERS");
        edges.text("  c  0  ,  0  ;  t  0  1  ;  p  1  ;  b  1  0  1  ;  ", 2, Edges.NONE);
        edges.text("c1 2,0;", -11, 3);
        edges.text("c0,1 2;", -11, 5);
        edges.text("c0,0;p0 1;", -12, 6);
        edges.text("c0,0;p1 0;", -11, 8);
        for (int other : new int[] {0, 9, 10, 13, 31, 33, 160, 255}) {
            edges.text((char) other + "c0,0;", -11, 0);
            edges.text("c0," + (char) other + "0;", -11, 3);
            edges.text("c0,0;" + (char) other, -11, 5);
        }
    }

    private void numbersSideBySide() {
        edges.of(PART, "two NUMBERS side by side need one");
        edges.text("c0,0;t0 1;", 2, Edges.NONE);
        edges.text("c0,0;t01;", -11, 8);
        edges.text("c0,0;b1 0 1;", 2, Edges.NONE);
        edges.text("c0,0;b1 01;", -11, 10);
        edges.text("c0,0;b10 1;", -11, 10);
        edges.text("c0,0;t0,1;", -11, 7);
    }

    private void firstLetterWithAFault() {
        edges.of(PART, "FAULTS, at the first letter that has one");
        edges.text("c61,61;x", -12, 1);
        edges.text("c0,61;x", -12, 3);
        edges.text("c61x", -12, 1);
        edges.text("c61;", -12, 1);
        edges.text("cx61", -11, 1);
        edges.text("c0,0;c0;x", -13, 5);
        edges.text("c0,0;x;c", -11, 5);
        edges.text("c0,0;p10;c", -12, 6);
        edges.text("c0,0;t2 21;", -12, 6);
        edges.text("c0,0;" + many("p1;", 6) + "p10;", -13, 23);
    }

    private void theEnd() {
        edges.of(PART, "(the end at the text's length)");
        String whole = "c0,0;t0 1;p1;b1 0 1;";
        for (int end = 1; end <= whole.length(); end++) {
            boolean clause = end == 5 || end == 10 || end == 13 || end == 20;
            edges.text(whole.substring(0, end), clause ? 2 : -11, clause ? Edges.NONE : end);
        }
        edges.text("c  ", -11, 3);
        edges.text("c0,0;p1  ", -11, 9);
        edges.text("c0,0;  ", 2, Edges.NONE);
    }

    private void theLeastFault() {
        edges.of(PART, "of these the least");
        // the number cannot stand there, and is too long or too great
        edges.text("c0,0;t0 1 2222;", -11, 10);
        edges.text("c0,0;p1 99;", -11, 8);
        edges.text("c0 61;", -11, 3);
        edges.text("9999", -11, 0);
        // another word than 'c' is first, and it is no clause at all
        edges.text("x9999", -11, 0);
    }

    private void noWord() {
        edges.of(PART, "1 it cannot stand there (a letter that is no word");
        for (char letter : new char[] {'a', 'd', 'C', 'T', 'P', 'B', '.', ':', '-', '+', '/', 0, 127, 255}) {
            edges.text("c0,0;" + letter, -11, 5);
            edges.text("c0,0;p" + letter + "1;", -11, 6);
            edges.text("c0,0;p1" + letter + ";", -11, 7);
        }
        edges.text("c0,0;,", -11, 5);
        edges.text("c0,0;;", -11, 5);
        edges.text("c0,0;5", -11, 5);
    }

    private void anotherWordFirst() {
        edges.of(PART, "another word first than 'c'");
        for (String word : new String[] {"t0 1;", "p1;", "b1 0 1;", ";", ",", "0", "9999"}) {
            edges.text(word, -11, 0);
            edges.text("   " + word + "c0,0;", -11, 3);
        }
    }

    private void eleventhGround() {
        edges.of(PART, "an 11th H: at its ','");
        String ten = "c0,0,0,0,0,0,0,0,0,0";
        edges.text(ten + ",0;", -11, 20);
        edges.text(ten + " ,0;", -11, 21);
        edges.text(ten + ",", -11, 20);
        edges.text(ten + ",61;", -11, 20);
        edges.text(ten + ",x", -11, 20);
        edges.text(ten + " 0;", -11, 21);
        edges.text("c0,0,0,0,0,0,0,0,0,61,0;", -12, 19);
    }

    private void oneGroundAlone() {
        edges.of(PART, "the ';' behind one H alone");
        edges.text("c0;", -11, 2);
        edges.text("c 60 ;p1;", -11, 5);
        edges.text("c;", -11, 1);
        edges.text("c0,;", -11, 3);
    }

    private void cannotStandInTowers() {
        edges.of(PART, "1 it cannot stand there");
        edges.text("c0,0;t;", -11, 6);
        edges.text("c0,0;t0;", -11, 7);
        edges.text("c0,0;t0 ;", -11, 8);
        edges.text("c0,0;t0 1,", -11, 9);
        edges.text("c0,0;t0 1 1;", -11, 10);
        edges.text("c0,0;t0 1t", -11, 9);
        edges.text("c0,0 0;", -11, 5);
        edges.text("c0,0t0 1;", -11, 4);
    }

    private void cannotStandInPlayersAndBoats() {
        edges.of(PART, "1 it cannot stand there");
        edges.text("c0,0;p;", -11, 6);
        edges.text("c0,0;p1,", -11, 7);
        edges.text("c0,0;p1p", -11, 7);
        edges.text("c0,0;b;", -11, 6);
        edges.text("c0,0;b1;", -11, 7);
        edges.text("c0,0;b1 0;", -11, 9);
        edges.text("c0,0;b1 0 1 1;", -11, 12);
        edges.text("c0,0;b1 0 1,", -11, 11);
        edges.text("c0,0;b1,0,1;", -11, 7);
    }

    private void longNumbers() {
        edges.of(PART, "2 a NUMBER of four figures or more, or out of its bounds");
        edges.text("c0000,0;", -12, 1);
        edges.text("c0,0000;", -12, 3);
        edges.text("c0, 00000000000000;", -12, 4);
        edges.text("c0,0;t0000 1;", -12, 6);
        edges.text("c0,0;t0 0001;", -12, 8);
        edges.text("c0,0;p0001;", -12, 6);
        edges.text("c0,0;b0001 0 1;", -12, 6);
        edges.text("c0,0;b1 0000 1;", -12, 8);
        edges.text("c0,0;b1 0 0001;", -12, 10);
        // these would be good if figures were lost, or ran over
        edges.text("c0010,0;", -12, 1);
        edges.text("c4294967296,0;", -12, 1);
        edges.text("c18446744073709551616,0;", -12, 1);
        edges.text("c0,0;p4294967297;", -12, 6);
        edges.text("c" + "0".repeat(239), -12, 1);
        edges.text("c0,0;p" + "1".repeat(234), -12, 6);
    }

    private void numbersOutOfBounds() {
        edges.of(PART, "2 a NUMBER of four figures or more, or out of its bounds");
        edges.text("c999,0;", -12, 1);
        edges.text("c0,100;", -12, 3);
        edges.text("c0,0;t0 000;", -12, 8);
        edges.text("c0,0;t0 999;", -12, 8);
        edges.text("c0,0;p999;", -12, 6);
        edges.text("c0,0;p 0;", -12, 7);
        edges.text("c0,0;b999 0 1;", -12, 6);
        edges.text("c0,0;b00 0 1;", -12, 6);
    }

    private void cellsThatThereAreNot() {
        edges.of(PART, "a CELL that there is not (at its first)");
        String ten = "c0,0,0,0,0,0,0,0,0,0;";
        edges.text("c0,0;t1 1;", 2, Edges.NONE);
        edges.text("c0,0;t2 1;", -12, 6);
        edges.text("c0,0;t 10 1;", -12, 7);
        edges.text(ten + "t9 1;", 10, Edges.NONE);
        edges.text(ten + "t10 1;", -12, 22);
        edges.text("c0,0;b1 1 1;", 2, Edges.NONE);
        edges.text("c0,0;b1 2 1;", -12, 8);
        edges.text("c0,0;b1 1 2;", -12, 10);
        edges.text("c0,0;b1 2 2;", -12, 8);
        edges.text(ten + "b1 9 9;", 10, Edges.NONE);
        edges.text(ten + "b1 10 9;", -12, 24);
        edges.text(ten + "b1 9 10;", -12, 26);
    }

    private void cellsAgain() {
        edges.of(PART, "3 'c' again");
        edges.text("c0,0;c", -13, 5);
        edges.text("c0,0;  c0,0;", -13, 7);
        edges.text("c0,0;p1;c61", -13, 8);
        edges.text("c0,0;p1c", -11, 7);
        edges.text("c0,c", -11, 3);
    }

    private void oneTooMany() {
        edges.of(PART, "a seventh 't', 'p', a fifth 'b' (at it)");
        edges.text("c0,0;" + many("t0 1;", 6) + "t", -13, 35);
        edges.text("c0,0;" + many("t0 1;", 6) + "  t0 1;", -13, 37);
        edges.text("c0,0;" + many("p1;", 6) + "p", -13, 23);
        edges.text("c0,0;" + many("p1;", 6) + " p0;", -13, 24);
        edges.text("c0,0;" + many("b1 0 1;", 4) + "b", -13, 33);
        edges.text("c0,0;" + many("b1 0 1;", 4) + " bx", -13, 34);
        edges.text("c0,0;" + many("t0 1;p1;", 6) + many("b1 0 1;", 4), 2, Edges.NONE);
        edges.text("c0,0;" + many("b1 0 1;", 4) + many("p1;t0 1;", 6) + "p1;", -13, 81);
    }

    private void emptyTexts() {
        edges.of(PART, "An empty text (or one of blanks alone): no COAST.");
        edges.text("", 0, Edges.NONE);
        edges.text(" ", 0, Edges.NONE);
        edges.text(" ".repeat(240), 0, Edges.NONE);
        for (String blanks : new String[] {"", "  "}) {
            GurdyTide x = EdgeTerms.rich();
            x.coast();
            Check.feed(x, blanks);
            edges.due("behind a coast", x.coast(), 0);
            for (int what = 0; what <= 18; what++) {
                edges.due("told " + what, x.told(what), what == 7 ? Edges.NONE : what == 16 ? 2097150 : 0);
            }
            edges.due("hour", x.hour(1), Edges.NOT);
            edges.due("cell", x.cell(0, 0), Edges.UNKNOWN);
        }
    }
}
