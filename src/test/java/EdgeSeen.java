/** Section 3, its second half: the edges of marks, of what is seen, of the book, of draws, of what is undone, of images. */
final class EdgeSeen {
    private static final String PART = "Section 3";
    private final Edges edges;

    EdgeSeen(Edges edges) {
        this.edges = edges;
    }

    void run() {
        marksAtMost();
        marksBounds();
        marksOfTheFirstAndTheLastHour();
        marksFromNow();
        oneSleepsAllOthersAreAwake();
        slept();
        lookAtTheLastHour();
        lookGreatestPart();
        lookOfLikeOnes();
        lookNone();
        seenAtMost();
        seenBounds();
        guts();
        gutsAtTheEdge();
        bookAtMost();
        wrong();
        seedAtFirst();
        seedGoesRound();
        drawOfN();
        drawsOfSleep();
        drawsOfRestAndNothing();
        drawsOfSitting();
        drawsWithoutPlayersOrTowers();
        drawsAheadOfEachHour();
        undoneAtMost();
        undoneGoesRound();
        undoneOnlyIfNotRefused();
        undoneIsAllOfSectionTwo();
        undoneSeedStays();
        images();
        imagesOfNothingElse();
    }

    /** Two sit at two towers in one cell: their arms alone tell them apart. */
    private static GurdyTide two(int arm, int other) {
        GurdyTide x = Check.on("c0,0;t0 1;t0 1;p" + arm + ";p" + other + ";p9;");
        x.sit(0, 0);
        x.sit(1, 1);
        return x;
    }

    private void marksAtMost() {
        edges.of(PART, "MARKS (6 at most)");
        GurdyTide x = two(5, 4);
        for (int i = 1; i <= 6; i++) {
            edges.due("mark", x.mark(0, 1, 4), i);
        }
        edges.due("a seventh", x.mark(0, 1, 4), Edges.FULL);
        edges.due("marks", x.told(13), 6);
        edges.due("slept", x.told(14), 1);
        x.tear();
        for (int i = 1; i <= 5; i++) {
            x.mark(0, 1, 4);
        }
        x.mark(0, 1, 5);
        edges.due("the sixth counts", x.told(14), 0);
    }

    private void marksBounds() {
        edges.of(PART, "behind n HOURS (1 .. 20) from now SEA at a CELL is v (0 .. 999)");
        GurdyTide x = Check.on("c0,0;t0 1;p1;");
        edges.bounds("n", 1, 20, n -> x.mark(0, n, 0));
        edges.bounds("v", 0, 999, v -> x.mark(0, 1, v));
        edges.due("four were taken", x.told(13), 4);
    }

    private void marksOfTheFirstAndTheLastHour() {
        edges.of(PART, "behind n HOURS (1 .. 20) from now SEA at a CELL is v (0 .. 999)");
        GurdyTide x = two(5, 4);
        // arm 5 winds 70 in 20 hours, arm 4 50
        markAlone(x, 1, 4, 1);
        markAlone(x, 1, 5, 2);
        markAlone(x, 1, 9, 0);
        markAlone(x, 20, 50, 1);
        markAlone(x, 20, 70, 2);
        markAlone(x, 20, 68, 0);
        markAlone(x, 19, 68, 2);
        markAlone(x, 20, 0, 0);
        markAlone(x, 20, 999, 0);
        GurdyTide far = Check.on("c0,0;t1 20;t1 20;p1;p2;");
        far.sit(0, 0);
        far.sit(1, 1);
        markAlone(far, 20, 0, 3);
    }

    private void markAlone(GurdyTide x, int n, int v, int slept) {
        x.tear();
        x.mark(0, n, v);
        edges.due("slept by " + v + " behind " + n, x.told(14), slept);
    }

    private void marksFromNow() {
        edges.of(PART, "TRIED from now");
        GurdyTide x = two(5, 4);
        x.mark(0, 1, 4);
        edges.due("from now", x.told(14), 1);
        x.hour(1);
        // both were awake in it: without 0 8 + 2, without 1 10 + 1
        edges.due("an hour later", x.told(14), 0);
        x.undo();
        edges.due("undone", x.told(14), 1);
    }

    private void oneSleepsAllOthersAreAwake() {
        edges.of(PART, "if one unknown PLAYER of those who sit now sleeps all the time, and all others are awake");
        GurdyTide x = two(5, 4);
        x.sleep(0, true);
        x.sleep(1, true);
        x.sleep(2, true);
        markAlone(x, 2, 8, 1);
        markAlone(x, 2, 10, 2);
        x.tear();
        edges.due("who rests did not sleep", x.told(14), 3);
        // he who sleeps lets his tower down: 30 - 6 and 8
        x.turn(0, 30);
        markAlone(x, 2, 32, 1);
        markAlone(x, 2, 40, 2);
        edges.due("all sleep as they did", x.told(12), 7);
    }

    private void slept() {
        edges.of(PART, "SLEPT: those who sit now (a SET of PLAYERS) by whom all MARKS are so");
        GurdyTide none = Check.on("c0,0;t0 1;p1;p2;");
        edges.due("nobody sits", none.told(14), 0);
        none.mark(0, 1, 0);
        edges.due("nobody sits, and there is a mark", none.told(14), 0);
        GurdyTide x = two(5, 4);
        edges.due("no marks: all who sit", x.told(14), 3);
        x.mark(0, 1, 4);
        edges.due("one mark", x.told(14), 1);
        x.mark(0, 2, 8);
        edges.due("both are so", x.told(14), 1);
        x.mark(0, 1, 5);
        edges.due("not all are so", x.told(14), 0);
        x.tear();
        x.rest(0);
        edges.due("who sits no more", x.told(14), 2);
        edges.due("no coast", new GurdyTide().told(14), 0);
    }

    private void lookAtTheLastHour() {
        edges.of(PART, "LOOK: 100 times the CELL, and n (1 .. 20)");
        GurdyTide x = Check.on("c0,0,0,0,0,0,0,0;t7 10;t7 10;p5;p1;");
        x.sit(0, 0);
        x.sit(1, 1);
        x.turn(0, 1);
        // seven off 70 are lost: tower 0 is wound to 69 behind 19 hours, to 71 behind 20
        edges.due("cell 0 behind 20", x.look(), 20);
        x.turn(0, 0);
        // 70 behind 20 hours: too late; six off 60 are lost, and 62 are wound behind 16
        edges.due("cell 1 behind 16", x.look(), 116);
        edges.due("cell 9 is the last", lookAtTheLastCell().look(), 901);
    }

    /** They are parted at cell 9 alone. */
    private static GurdyTide lookAtTheLastCell() {
        GurdyTide x = Check.on("c0,0,0,0,0,0,0,0,0,0;t9 20;t9 20;p1;p2;");
        x.sit(0, 0);
        x.sit(1, 1);
        return x;
    }

    private void lookGreatestPart() {
        edges.of(PART, "the greatest part that is alike is least");
        GurdyTide three = Check.on("c0,0;t0 20;t1 20;t1 20;p3;p1;p2;");
        three.sit(0, 0);
        three.sit(1, 1);
        three.sit(2, 2);
        // at 0 two are ever alike; at 1 behind an hour: without 0 3, without 1 2, without 2 1
        edges.due("one, one and one", three.look(), 101);
        GurdyTide four = Check.on("c0,0,0;t0 20;t1 20;t2 20;t2 20;p1;p1;p1;p1;");
        for (int p = 0; p < 4; p++) {
            four.sit(p, p);
        }
        // at 0 and 1 three are alike, at 2 two and two
        edges.due("two and two", four.look(), 201);
        four.mark(2, 1, 1);
        edges.due("these slept", four.told(14), 12);
        edges.due("never told apart", four.look(), Edges.NONE);
        edges.due("six: one each", six("p1;p2;p3;p4;p5;p6;").look(), 1);
        edges.due("six that are alike", six("p5;p5;p5;p5;p5;p5;").look(), Edges.NONE);
        edges.due("six: five and one", six("p5;p5;p5;p5;p5;p6;").look(), 1);
        four.tear();
        four.mark(2, 1, 2);
        edges.due("these slept", four.told(14), 3);
        edges.due("told apart at 0", four.look(), 1);
    }

    /** Six sit at six towers in one cell. */
    private static GurdyTide six(String players) {
        GurdyTide x = Check.on("c0,0;t0 1;t0 1;t0 1;t0 1;t0 1;t0 1;" + players);
        for (int p = 0; p < 6; p++) {
            x.sit(p, p);
        }
        return x;
    }

    private void lookOfLikeOnes() {
        edges.of(PART, "the greatest part that is alike is least; of like ones the least");
        GurdyTide x = two(5, 4);
        edges.due("cell 0 behind 1, of all that part them", x.look(), 1);
        GurdyTide y = Check.on("c0,0;t1 4;t1 4;p1;p2;");
        y.sit(0, 0);
        y.sit(1, 1);
        // at 1 they are told apart behind 1 hour, at 0 behind 3: the cell comes first
        edges.due("cell 0 behind 3", y.look(), 3);
    }

    private void lookNone() {
        edges.of(PART, "NONE: none parts them");
        edges.due("no coast", new GurdyTide().look(), Edges.NONE);
        edges.due("nobody sits", Check.on("c0,0;t0 1;p1;").look(), Edges.NONE);
        edges.due("two that are alike", two(5, 5).look(), Edges.NONE);
        GurdyTide x = two(5, 4);
        x.mark(0, 1, 4);
        edges.due("one is left", x.look(), Edges.NONE);
        x.mark(0, 1, 5);
        edges.due("none is left", x.look(), Edges.NONE);
        x.tear();
        x.rest(1);
        edges.due("one sits", x.look(), Edges.NONE);
    }

    private void seenAtMost() {
        edges.of(PART, "SEEN (6 at most)");
        GurdyTide x = new GurdyTide();
        for (int i = 1; i <= 6; i++) {
            edges.due("see", x.see(20, 1, 10), i);
        }
        edges.due("a seventh", x.see(20, 1, 10), Edges.FULL);
        edges.due("seen", x.told(15), 6);
        edges.due("guts", x.told(16), 1 << 10);
        x.tear();
        for (int i = 1; i <= 5; i++) {
            x.see(20, 1, 10);
        }
        x.see(20, 1, 11);
        edges.due("the sixth counts", x.told(16), 0);
    }

    private void seenBounds() {
        edges.of(PART, "WOUND to w (0 .. 99), bears v (0 .. 99) k CELLS (0 .. 9) off");
        GurdyTide x = new GurdyTide();
        edges.bounds("w", 0, 99, w -> x.see(w, 1, 0));
        edges.bounds("v", 0, 99, v -> x.see(1, 1, v));
        edges.bounds("k", 0, 9, k -> x.see(1, k, 0));
        edges.due("six were taken", x.told(15), 6);
    }

    private int gutsOf(int w, int k, int v) {
        GurdyTide x = new GurdyTide();
        x.see(w, k, v);
        return x.told(16);
    }

    private void guts() {
        edges.of(PART, "GUTS: numbers G (a SET: bit G) by which all that is SEEN is so.");
        int all = (1 << 21) - 2;
        edges.due("nothing seen", new GurdyTide().told(16), all);
        GurdyTide x = new GurdyTide();
        x.see(50, 2, 40);
        edges.due("5", x.told(16), 1 << 5);
        x.see(10, 3, 0);
        edges.due("5 still", x.told(16), 1 << 5);
        x.see(10, 1, 6);
        edges.due("none", x.told(16), 0);
    }

    private void gutsAtTheEdge() {
        edges.of(PART, "a TOWER of unknown G (1 .. 20)");
        int all = (1 << 21) - 2;
        edges.due("99 borne 9 off to 90", gutsOf(99, 9, 90), 1 << 1);
        edges.due("99 borne 9 off to 91", gutsOf(99, 9, 91), 0);
        edges.due("99 borne 9 off to 99: G is not 0", gutsOf(99, 9, 99), 0);
        edges.due("99 borne 4 off to 19", gutsOf(99, 4, 19), 1 << 20);
        edges.due("99 borne 4 off to 15: G is not 21", gutsOf(99, 4, 15), 0);
        edges.due("20 borne 1 off to 0", gutsOf(20, 1, 0), 1 << 20);
        edges.due("21 borne 1 off to 0", gutsOf(21, 1, 0), 0);
        edges.due("19 borne 1 off to 0", gutsOf(19, 1, 0), (1 << 20) + (1 << 19));
        edges.due("1 borne 1 off to 0", gutsOf(1, 1, 0), all);
        edges.due("0 borne 9 off to 0", gutsOf(0, 9, 0), all);
        edges.due("0 borne 9 off to 1", gutsOf(0, 9, 1), 0);
        edges.due("0 off all is borne", gutsOf(99, 0, 99), all);
        edges.due("0 off not all is borne", gutsOf(99, 0, 98), 0);
        edges.due("99 borne 9 off to 0", gutsOf(99, 9, 0), all - ((1 << 11) - 2));
    }

    private void bookAtMost() {
        edges.of(PART, "THE BOOK (15 at most) tells SEA at CELLS");
        GurdyTide x = Check.on("c0,0;t0 1;");
        for (int i = 1; i <= 14; i++) {
            edges.due("write", x.write(0, 0), i);
        }
        edges.due("the 15th", x.write(0, 1), 15);
        edges.due("the 16th", x.write(0, 2), Edges.FULL);
        edges.due("entries", x.told(17), 15);
        edges.due("the 15th is wrong", x.judge(), 14);
        x.turn(0, 1);
        edges.due("now the first is", x.judge(), 0);
    }

    private void wrong() {
        edges.of(PART, "WRONG: the first that is otherwise now; NONE.");
        GurdyTide x = Check.on("c9,9;t0 1;");
        edges.due("an empty book", x.judge(), Edges.NONE);
        x.write(0, 0);
        edges.due("0 is so", x.judge(), Edges.NONE);
        x.write(1, 5);
        x.write(1, 6);
        edges.due("the second", x.judge(), 1);
        x.turn(0, 6);
        edges.due("now the first", x.judge(), 0);
        x.undo();
        edges.due("undone: the second", x.judge(), 1);
        edges.due("no coast", new GurdyTide().judge(), Edges.NONE);
    }

    private static int seedOf(GurdyTide x) {
        int seed = x.seed(0);
        x.seed(seed);
        return seed;
    }

    private void seedAtFirst() {
        edges.of(PART, "THE SEED (0 at first");
        edges.due("at first", new GurdyTide().seed(1), 0);
        GurdyTide x = Check.on("c0,0;p1;");
        edges.due("with a coast, too", seedOf(x), 0);
        x.drift(1);
        // 12345, then 12345 times 1103515245 and 12345, left over by 2 to the 31
        edges.due("two draws from 0", seedOf(x), 1406932606);
    }

    private void seedGoesRound() {
        edges.of(PART, "each DRAW it becomes it times 1103515245 and 12345, left over by 2 to the 31");
        GurdyTide x = Check.on("c0,0;p1;");
        x.seed(2147483647);
        x.drift(1);
        edges.due("from the greatest: 1043980748, then", seedOf(x), 288979989);
        // the first draw makes it 0, so the second makes it 12345, of which 0 is drawn: he sleeps
        x.seed(2088216195);
        x.drift(1);
        edges.due("it becomes 0, then", seedOf(x), 12345);
        edges.due("on 0 he sleeps", x.player(0, 3), 1);
        // the first draw makes it the greatest number there is
        x.seed(230538014);
        x.drift(1);
        edges.due("it becomes 2147483647, then", seedOf(x), 1043980748);
        x.seed(1);
        long s = 1;
        for (int i = 0; i < 120; i++) {
            s = (s * 1103515245L + 12345L) % 2147483648L;
        }
        x.drift(60);
        edges.due("120 draws", seedOf(x), s);
    }

    private void drawOfN() {
        edges.of(PART, "the DRAW of n is it / 65536, left over by n");
        int[] seeds = {1396811395, 1560722206, 14001795, 869317406};
        // the first draw makes it 131072, 1376255, 393216, 1507327; on the second he sleeps
        int[] due = {2, 20 % 6, 6 % 6, 22 % 6};
        for (int i = 0; i < seeds.length; i++) {
            GurdyTide x = Check.on("c0,0;p1;p1;p1;p1;p1;p1;");
            x.seed(seeds[i]);
            x.drift(1);
            edges.due("of 6 from " + seeds[i], x.told(12), 1 << due[i]);
        }
    }

    /** Two towers, two players, an hour by draws from this seed. */
    private static GurdyTide drawn(int seed, boolean asleep, boolean sitting) {
        GurdyTide x = Check.on("c0,0;t0 1;t1 1;p1;p1;");
        if (asleep) {
            x.sleep(0, true);
            x.sleep(1, true);
        }
        if (sitting) {
            x.sit(0, 0);
            x.sit(1, 1);
        }
        x.seed(seed);
        x.drift(1);
        return x;
    }

    private void drawsOfSleep() {
        edges.of(PART, "a DRAW of these, of 6: on 0 he sleeps, on 1 he wakes, on 2 he RESTS");
        edges.due("0 sleeps", drawn(0, false, false).told(12), 1);
        edges.due("0 sleeps already", drawn(0, true, false).told(12), 3);
        edges.due("1 sleeps", drawn(11, false, false).told(12), 2);
        edges.due("0 wakes", drawn(9, true, false).told(12), 2);
        edges.due("0 is awake already", drawn(9, false, false).told(12), 0);
        edges.due("1 wakes", drawn(12, true, false).told(12), 1);
        edges.due("who sleeps sits still", drawn(0, false, true).told(11), 3);
        edges.due("who wakes sits still", drawn(9, true, true).told(11), 3);
        edges.due("who wakes sits still", drawn(12, true, true).told(11), 3);
        edges.due("two draws", seedOf(drawn(0, false, false)), 1406932606);
        edges.due("two draws", seedOf(drawn(9, false, false)), 731087919);
    }

    private void drawsOfRestAndNothing() {
        edges.of(PART, "a DRAW of these, of 6: on 0 he sleeps, on 1 he wakes, on 2 he RESTS");
        edges.due("0 rests", drawn(7, false, true).told(11), 2);
        edges.due("0 rests already", drawn(7, false, false).told(11), 0);
        edges.due("1 rests", drawn(10, false, true).told(11), 1);
        edges.due("two draws", seedOf(drawn(7, false, false)), 642666333);
        // on 4 and on 5 nothing is done
        for (int seed : new int[] {1, 4, 2, 16}) {
            for (int i = 0; i < 4; i++) {
                GurdyTide x = drawn(seed, i % 2 == 1, i >= 2);
                edges.due("who sleeps", x.told(12), i % 2 == 1 ? 3 : 0);
                edges.due("who sits", x.told(11), i >= 2 ? 3 : 0);
            }
        }
        edges.due("two draws on 4", seedOf(drawn(1, false, false)), 377401575);
        edges.due("two draws on 5", seedOf(drawn(2, false, false)), 1495354192);
    }

    private void drawsOfSitting() {
        edges.of(PART, "on 3, if there are TOWERS, a DRAW of these: he SITS there, if nobody does");
        edges.due("0 sits at 0", drawn(6, false, false).player(0, 2), 0);
        edges.due("0 sits at 1", drawn(19, false, false).player(0, 2), 1);
        edges.due("1 sits at 0", drawn(5, false, false).player(1, 2), 0);
        edges.due("1 sits at 1", drawn(3, false, false).player(1, 2), 1);
        edges.due("three draws", seedOf(drawn(6, false, false)), 704025629);
        edges.due("0 sits there already", drawn(6, false, true).player(0, 2), 0);
        edges.due("1 sits there: 0 stays", drawn(19, false, true).player(0, 2), 0);
        edges.due("1 stays, too", drawn(19, false, true).player(1, 2), 1);
        edges.due("three draws, though nobody sits down", seedOf(drawn(19, false, true)), 811149646);
        GurdyTide x = Check.on("c0,0;t0 1;t1 1;p1;p1;");
        x.sit(0, 0);
        x.seed(19);
        x.drift(1);
        edges.due("0 leaves 0 for 1", x.player(0, 2), 1);
        edges.due("0 is free", x.tower(0, 3), Edges.NONE);
    }

    private void drawsWithoutPlayersOrTowers() {
        edges.of(PART, "n HOURS: ahead of each, if there are PLAYERS, a DRAW of these");
        GurdyTide x = Check.on("c0,0;t0 1;");
        x.seed(7);
        x.turn(0, 99);
        edges.due("hours", x.drift(2), 2);
        edges.due("it is let down", x.tower(0, 2), 93);
        edges.due("no players: no draw", seedOf(x), 7);
        edges.of(PART, "on 3, if there are TOWERS, a DRAW of these");
        GurdyTide y = Check.on("c0,0;p1;p1;");
        y.seed(6);
        y.drift(1);
        edges.due("no towers: two draws", seedOf(y), 1672197364);
        edges.due("nobody sits", y.told(11), 0);
    }

    private void drawsAheadOfEachHour() {
        edges.of(PART, "n HOURS: ahead of each");
        GurdyTide x = Check.on("c0,0;t0 1;t1 1;p1;p1;");
        x.seed(6);
        x.drift(1);
        edges.due("he sat down ahead of the hour", x.tower(0, 2), 1);
        edges.due("he is tired by it", x.player(0, 1), 1);
        // an hour by draws is a draw and an hour, as often as told
        GurdyTide at = Check.on("c0,0;t0 1;t1 1;p4;p7;b1 0 1;");
        GurdyTide by = Check.on("c0,0;t0 1;t1 1;p4;p7;b1 0 1;");
        at.drift(12);
        for (int i = 0; i < 12; i++) {
            by.drift(1);
        }
        at.keep(0);
        by.keep(0);
        edges.same("12 hours", Picture.deep(at), Picture.deep(by));
    }

    private void undoneAtMost() {
        edges.of(PART, "(16 at most are kept, the oldest are lost)");
        GurdyTide x = Check.on("c0,0;t0 1;");
        for (int i = 1; i <= 16; i++) {
            x.turn(0, i);
            edges.due("can be undone", x.told(18), i);
        }
        x.turn(0, 17);
        edges.due("no more than 16", x.told(18), 16);
        for (int i = 15; i >= 0; i--) {
            edges.due("undo", x.undo(), i);
            edges.due("as ahead of it", x.tower(0, 2), i + 1);
        }
        edges.due("the oldest is lost", x.undo(), Edges.NOT);
        edges.due("as behind it", x.tower(0, 2), 1);
        GurdyTide y = Check.on("c0,0;t0 1;");
        for (int i = 1; i <= 16; i++) {
            y.turn(0, i);
        }
        for (int i = 15; i >= 0; i--) {
            edges.due("undo of 16", y.undo(), i);
        }
        edges.due("none of 16 is lost", y.tower(0, 2), 0);
    }

    private void undoneGoesRound() {
        edges.of(PART, "(16 at most are kept, the oldest are lost)");
        GurdyTide x = Check.on("c0,0;t0 1;");
        for (int i = 1; i <= 90; i++) {
            x.turn(0, i);
        }
        for (int i = 15; i >= 6; i--) {
            edges.due("undo", x.undo(), i);
        }
        edges.due("ten undone", x.tower(0, 2), 80);
        for (int i = 1; i <= 12; i++) {
            x.turn(0, i);
            edges.due("can be undone", x.told(18), Math.min(16, 6 + i));
        }
        for (int i = 15; i >= 4; i--) {
            edges.due("undo", x.undo(), i);
            edges.due("as ahead of it", x.tower(0, 2), i == 4 ? 80 : i - 4);
        }
        for (int i = 3; i >= 0; i--) {
            edges.due("undo", x.undo(), i);
            edges.due("as ahead of it", x.tower(0, 2), 76 + i);
        }
        edges.due("none", x.undo(), Edges.NOT);
    }

    private void undoneOnlyIfNotRefused() {
        edges.of(PART, "UNDONE: the latest of hour(), sit(), rest(), sleep(), turn(), send(), drift() that was not refused");
        GurdyTide x = Check.on("c0,0;t0 1;p1;b1 0 1;");
        edges.due("sit", x.sit(0, 0) + x.told(18), Edges.NONE + 1);
        edges.due("sleep", x.sleep(0, false) + x.told(18), 2);
        edges.due("hour", x.hour(1) + x.told(18), 1 + 3);
        edges.due("turn", x.turn(0, 1) + x.told(18), 1 + 4);
        edges.due("send", x.send(0) + x.told(18), 5);
        edges.due("rest", x.rest(0) + x.told(18), 6);
        edges.due("drift", x.drift(1) + x.told(18), 2 + 7);
        x.hour(0);
        x.sit(0, 1);
        x.rest(1);
        x.sleep(1, true);
        x.turn(0, 100);
        x.send(1);
        x.drift(61);
        edges.due("what is refused is not counted", x.told(18), 7);
        x.mark(0, 1, 0);
        x.see(0, 0, 0);
        x.write(0, 0);
        x.seed(9);
        x.tear();
        x.feed('c');
        edges.due("nothing else is counted", x.told(18), 7);
        edges.due("the drift is undone", x.undo(), 6);
        edges.due("hours", x.told(5), 1);
    }

    private void undoneIsAllOfSectionTwo() {
        edges.of(PART, "all of section 2 is as ahead of it");
        GurdyTide x = Check.on("c0,0;t0 1;t1 1;p9;p9;b1 0 1;");
        x.sit(0, 0);
        x.sleep(1, true);
        x.hour(1);
        String ahead = Picture.of(x);
        x.hour(60);
        x.undo();
        edges.same("an hour undone", Picture.of(x), ahead);
        x.sit(1, 1);
        x.sit(0, 0);
        x.rest(0);
        x.sleep(1, false);
        x.turn(1, 55);
        x.send(0);
        for (int i = 0; i < 5; i++) {
            x.undo();
        }
        edges.same("five undone", Picture.of(x), ahead);
        x.drift(60);
        x.undo();
        x.seed(0);
        edges.same("a drift undone", Picture.of(x), ahead);
        x.mark(0, 1, 0);
        x.see(0, 0, 0);
        x.write(0, 0);
        x.undo();
        edges.due("marks stay", x.told(13), 1);
        edges.due("what is seen stays", x.told(15), 1);
        edges.due("the book stays", x.told(17), 1);
    }

    private void undoneSeedStays() {
        edges.of(PART, "THE SEED stays.");
        GurdyTide x = Check.on("c0,0;p1;");
        x.drift(1);
        edges.due("undo", x.undo(), 0);
        edges.due("the seed stays", seedOf(x), 1406932606);
        x.hour(1);
        x.seed(5);
        x.undo();
        edges.due("the seed stays", seedOf(x), 5);
    }

    private void images() {
        edges.of(PART, "IMAGES 0, 1 keep all of section 2, THE SEED.");
        GurdyTide x = Check.on("c0,0;t0 1;t1 1;p9;p9;b1 0 1;");
        x.keep(0);
        String first = Picture.of(x);
        x.sit(0, 0);
        x.sleep(1, true);
        x.seed(2147483647);
        x.hour(60);
        x.keep(1);
        String second = Picture.of(x);
        x.drift(60);
        x.send(0);
        x.rest(0);
        x.goBack(0);
        edges.same("image 0", Picture.of(x), first);
        x.goBack(1);
        edges.same("image 1", Picture.of(x), second);
        x.drift(1);
        x.goBack(1);
        edges.same("image 1 again", Picture.of(x), second);
    }

    private void imagesOfNothingElse() {
        edges.of(PART, "IMAGES 0, 1 keep all of section 2, THE SEED.");
        GurdyTide x = Check.on("c0,0;t0 1;p9;");
        x.mark(0, 1, 0);
        x.keep(0);
        x.mark(0, 1, 0);
        x.see(0, 0, 0);
        x.write(0, 0);
        x.feed('c');
        x.goBack(0);
        edges.due("marks stay", x.told(13), 2);
        edges.due("what is seen stays", x.told(15), 1);
        edges.due("the book stays", x.told(17), 1);
        edges.due("the text stays", x.told(4), 1);
    }
}
