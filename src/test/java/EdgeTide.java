/** Section 2: the edges of what towers, players and boats are, and of an hour. */
final class EdgeTide {
    private static final String PART = "Section 2";
    private final Edges edges;

    EdgeTide(Edges edges) {
        this.edges = edges;
    }

    void run() {
        woundBounds();
        seaOfOneTower();
        seaOfAll();
        depth();
        oneAtEachTower();
        restsAtFirst();
        awakeAtFirst();
        tiredBounds();
        windsByArm();
        windsToMost();
        windsThenTires();
        tiresToMost();
        othersRecover();
        towersSink();
        towersSinkUnderSleepers();
        boatsGoBehindTheWinding();
        boatsNeedDepthHere();
        boatsNeedDepthAhead();
        boatsAtTheirEnd();
        aground();
        hoursFromNought();
        sits();
        rests();
        sleepsAndWakes();
        turned();
        sent();
    }

    private void woundBounds() {
        edges.of(PART, "A TOWER is WOUND to 0 (at first) to 99.");
        GurdyTide x = Check.on("c0,0;t0 1;t1 20;p9;");
        edges.due("at first", x.tower(0, 2), 0);
        edges.due("at first", x.tower(1, 2), 0);
        x.turn(0, 99);
        edges.due("99", x.tower(0, 2), 99);
        x.sit(0, 0);
        x.hour(1);
        edges.due("no more than 99", x.tower(0, 2), 99);
        edges.due("no less than 0", x.tower(1, 2), 0);
    }

    private void seaOfOneTower() {
        edges.of(PART, "what it is WOUND to less G for each CELL between (its own: 0 less; 0 at least)");
        GurdyTide x = Check.on("c0,0,0,0,0,0;t2 10;");
        x.turn(0, 30);
        int[] due = {10, 20, 30, 20, 10, 0};
        for (int c = 0; c < due.length; c++) {
            edges.due("30 at " + c, x.cell(c, 1), due[c]);
        }
        x.turn(0, 29);
        int[] less = {9, 19, 29, 19, 9, 0};
        for (int c = 0; c < less.length; c++) {
            edges.due("29 at " + c, x.cell(c, 1), less[c]);
        }
        x.turn(0, 20);
        edges.due("20 two off", x.cell(4, 1), 0);
        x.turn(0, 21);
        edges.due("21 two off", x.cell(4, 1), 1);
        GurdyTide far = Check.on("c0,0,0,0,0,0,0,0,0,0;t0 11;t9 20;");
        far.turn(0, 99);
        edges.due("99 nine off by 11", far.cell(9, 1), 0);
        far.turn(0, 0);
        far.turn(1, 99);
        edges.due("99 nine off by 20", far.cell(0, 1), 0);
        edges.due("99 four off by 20", far.cell(5, 1), 19);
        edges.due("99 five off by 20", far.cell(4, 1), 0);
    }

    private void seaOfAll() {
        edges.of(PART, "all together");
        GurdyTide x = Check.on("c0,0;t0 1;t0 1;t0 1;t0 1;t0 1;t0 1;");
        edges.due("none is wound", x.cell(0, 1), 0);
        for (int t = 0; t < 6; t++) {
            x.turn(t, 99);
            edges.due("sea", x.cell(0, 1), 99 * (t + 1));
            edges.due("sea", x.cell(1, 1), 98 * (t + 1));
        }
        // what is below 0 of one tower takes nothing from another's
        GurdyTide y = Check.on("c0,0;t0 1;t1 20;");
        y.turn(0, 5);
        y.turn(1, 3);
        edges.due("5, and 0 at least", y.cell(0, 1), 5);
        edges.due("4 and 3", y.cell(1, 1), 7);
        edges.due("no towers", Check.on("c0,0;p1;").cell(0, 1), 0);
    }

    private void depth() {
        edges.of(PART, "DEPTH: SEA less GROUND (0 at least).");
        GurdyTide x = Check.on("c9,60;t0 20;");
        edges.due("0 less 9", x.cell(0, 2), 0);
        x.turn(0, 8);
        edges.due("8 less 9", x.cell(0, 2), 0);
        x.turn(0, 9);
        edges.due("9 less 9", x.cell(0, 2), 0);
        x.turn(0, 10);
        edges.due("10 less 9", x.cell(0, 2), 1);
        x.turn(0, 99);
        edges.due("99 less 9", x.cell(0, 2), 90);
        edges.due("79 less 60", x.cell(1, 2), 19);
        edges.due("as tried", x.sea(1, 0, 1), 19);
    }

    private void oneAtEachTower() {
        edges.of(PART, "A PLAYER sits at a TOWER (one at most at each)");
        GurdyTide x = Check.on("c0,0;t0 1;t0 1;p1;p2;");
        x.sit(0, 0);
        edges.due("a second", x.sit(1, 0), Edges.NOT);
        edges.due("who sits there", x.tower(0, 3), 0);
        edges.due("the second rests", x.player(1, 2), Edges.NONE);
        edges.due("at the other, in the same cell", x.sit(1, 1), Edges.NONE);
        x.sleep(0, true);
        edges.due("where somebody sleeps", x.sit(1, 0), Edges.NOT);
        edges.due("he stays", x.player(1, 2), 1);
    }

    private void restsAtFirst() {
        edges.of(PART, "or rests (at first)");
        GurdyTide x = Check.on("c0,0;t0 1;p1;p1;p1;p1;p1;p1;");
        for (int p = 0; p < 6; p++) {
            edges.due("tower of " + p, x.player(p, 2), Edges.NONE);
        }
        edges.due("who sits", x.told(11), 0);
        edges.due("who sits there", x.tower(0, 3), Edges.NONE);
    }

    private void awakeAtFirst() {
        edges.of(PART, "sleeps, or is awake (at first)");
        GurdyTide x = Check.on("c0,0;p1;p1;p1;p1;p1;p1;");
        for (int p = 0; p < 6; p++) {
            edges.due("sleeps " + p, x.player(p, 3), 0);
        }
        edges.due("who sleeps", x.told(12), 0);
    }

    private void tiredBounds() {
        edges.of(PART, "is TIRED by 0 (at first) to 99");
        GurdyTide x = Check.on("c0,0;t0 1;p9;p1;");
        edges.due("at first", x.player(0, 1), 0);
        edges.due("at first", x.player(1, 1), 0);
        x.hour(1);
        edges.due("0 at least", x.player(0, 1), 0);
        x.sit(0, 0);
        x.hour(60);
        x.hour(38);
        edges.due("98", x.player(0, 1), 98);
        x.hour(1);
        edges.due("99", x.player(0, 1), 99);
        x.hour(60);
        edges.due("99 still", x.player(0, 1), 99);
    }

    private void windsByArm() {
        edges.of(PART, "winds his TOWER by ARM, less TIRED / 5 (0 at least)");
        GurdyTide x = Check.on("c0,0;t0 1;p1;");
        x.sit(0, 0);
        x.hour(5);
        edges.due("1 each of five hours", x.tower(0, 2), 5);
        x.hour(1);
        edges.due("1 less 1", x.tower(0, 2), 5);
        x.hour(4);
        edges.due("still 1 less 1", x.tower(0, 2), 5);
        x.hour(1);
        edges.due("1 less 2 is 0", x.tower(0, 2), 5);
        x.hour(60);
        x.hour(60);
        edges.due("1 less 19 is 0", x.tower(0, 2), 5);
        GurdyTide y = Check.on("c0,0;t0 1;p9;");
        y.sit(0, 0);
        y.hour(44);
        y.turn(0, 0);
        y.hour(1);
        edges.due("9 less 44 / 5", y.tower(0, 2), 1);
        y.hour(1);
        edges.due("9 less 45 / 5", y.tower(0, 2), 1);
    }

    private void windsToMost() {
        edges.of(PART, "more (to 99 at most)");
        GurdyTide x = Check.on("c0,0;t0 1;p9;");
        x.sit(0, 0);
        int[] before = {89, 90, 91, 98, 99};
        int[] behind = {98, 99, 99, 99, 99};
        for (int i = 0; i < before.length; i++) {
            x.turn(0, before[i]);
            x.hour(1);
            edges.due("from " + before[i], x.tower(0, 2), behind[i]);
        }
    }

    private void windsThenTires() {
        edges.of(PART, "then is 1 more TIRED (99 at most)");
        GurdyTide x = Check.on("c0,0;t0 1;p9;");
        x.sit(0, 0);
        x.hour(4);
        edges.due("tired", x.player(0, 1), 4);
        // were he tired first he would wind 8 in this hour
        x.hour(1);
        edges.due("five times 9", x.tower(0, 2), 45);
        edges.due("tired", x.player(0, 1), 5);
        x.hour(1);
        edges.due("and 8", x.tower(0, 2), 53);
    }

    private void tiresToMost() {
        edges.of(PART, "then is 1 more TIRED (99 at most)");
        GurdyTide x = Check.on("c0,0;t0 1;p9;");
        x.sit(0, 0);
        x.hour(60);
        x.hour(39);
        edges.due("99", x.player(0, 1), 99);
        x.hour(1);
        edges.due("not 100", x.player(0, 1), 99);
        x.rest(0);
        x.hour(1);
        edges.due("from 99, not from 100", x.player(0, 1), 97);
        GurdyTide y = Check.on("c0,0;t0 1;p9;");
        y.sit(0, 0);
        y.turn(0, 99);
        y.hour(1);
        edges.due("tired though it is wound no more", y.player(0, 1), 1);
    }

    private void othersRecover() {
        edges.of(PART, "all others are 2 less TIRED (0 at least)");
        GurdyTide x = Check.on("c0,0;t0 1;p9;p9;");
        x.sit(0, 0);
        x.hour(5);
        x.rest(0);
        x.hour(1);
        edges.due("rests, awake", x.player(0, 1), 3);
        x.sleep(0, true);
        x.hour(1);
        edges.due("rests, asleep; 1", x.player(0, 1), 1);
        x.hour(1);
        edges.due("1 less 2 is 0", x.player(0, 1), 0);
        x.hour(1);
        edges.due("0 less 2 is 0", x.player(0, 1), 0);
        x.sleep(0, false);
        x.sit(0, 0);
        x.hour(4);
        x.sleep(0, true);
        x.hour(1);
        edges.due("sits, asleep", x.player(0, 1), 2);
        x.hour(1);
        edges.due("2 less 2", x.player(0, 1), 0);
        edges.due("the other", x.player(1, 1), 0);
    }

    private void towersSink() {
        edges.of(PART, "Each TOWER at which nobody sits who is awake is WOUND to 3 less (0 at least).");
        GurdyTide x = Check.on("c0,0;t0 1;t0 1;t0 1;t0 1;t0 1;t0 1;p1;");
        int[] before = {0, 1, 2, 3, 4, 99};
        int[] behind = {0, 0, 0, 0, 1, 96};
        for (int t = 0; t < 6; t++) {
            x.turn(t, before[t]);
        }
        x.hour(1);
        for (int t = 0; t < 6; t++) {
            edges.due("from " + before[t], x.tower(t, 2), behind[t]);
        }
        GurdyTide y = Check.on("c0,0;t0 1;");
        y.turn(0, 99);
        y.hour(32);
        edges.due("99 less 96", y.tower(0, 2), 3);
        y.hour(1);
        edges.due("99 less 99", y.tower(0, 2), 0);
    }

    private void towersSinkUnderSleepers() {
        edges.of(PART, "Each TOWER at which nobody sits who is awake is WOUND to 3 less (0 at least).");
        GurdyTide x = Check.on("c0,0;t0 1;t1 1;p1;p1;");
        x.turn(0, 50);
        x.turn(1, 50);
        x.sit(0, 0);
        x.sit(1, 1);
        x.sleep(1, true);
        x.hour(1);
        edges.due("he is awake", x.tower(0, 2), 51);
        edges.due("he sleeps", x.tower(1, 2), 47);
        x.hour(60);
        x.turn(0, 50);
        x.hour(1);
        // he winds nothing, being tired, but he sits and is awake
        edges.due("held", x.tower(0, 2), 50);
    }

    private void boatsGoBehindTheWinding() {
        edges.of(PART, "Then BOAT by BOAT");
        GurdyTide x = Check.on("c0,0;t0 1;p9;b8 0 1;b9 0 1;");
        x.sit(0, 0);
        // wound to 9: depth 9 and 8
        x.hour(1);
        edges.due("deep enough behind the winding", x.boat(0, 1), 1);
        edges.due("not deep enough", x.boat(1, 1), 0);
        GurdyTide y = Check.on("c0,0;t0 1;b8 0 1;b9 0 1;");
        y.turn(0, 12);
        // let down to 9
        y.hour(1);
        edges.due("deep enough behind the sinking", y.boat(0, 1), 1);
        edges.due("no more deep enough", y.boat(1, 1), 0);
    }

    private void boatsNeedDepthHere() {
        edges.of(PART, "for which DEPTH where it is, and at the next CELL towards Y, is DRAUGHT or more, goes there");
        GurdyTide x = Check.on("c20,0,20;t1 1;b5 0 1;b5 2 1;");
        x.turn(0, 28);
        // let down to 25: sea 24, 25, 24, depth 4, 25, 4
        x.hour(1);
        edges.due("4 of 5 here", x.boat(0, 1), 0);
        edges.due("4 of 5 here", x.boat(1, 1), 2);
        x.turn(0, 29);
        x.hour(1);
        edges.due("5 of 5 here", x.boat(0, 1), 1);
        edges.due("5 of 5 here", x.boat(1, 1), 1);
    }

    private void boatsNeedDepthAhead() {
        edges.of(PART, "for which DEPTH where it is, and at the next CELL towards Y, is DRAUGHT or more, goes there");
        GurdyTide x = Check.on("c0,20,0;t1 1;b5 0 2;b5 2 0;");
        x.turn(0, 27);
        // let down to 24: depth 23, 4, 23
        x.hour(1);
        edges.due("4 of 5 ahead", x.boat(0, 1), 0);
        edges.due("4 of 5 ahead", x.boat(1, 1), 2);
        x.turn(0, 28);
        x.hour(1);
        edges.due("5 of 5 ahead: one cell", x.boat(0, 1), 1);
        edges.due("5 of 5 ahead: one cell", x.boat(1, 1), 1);
        x.turn(0, 28);
        x.hour(1);
        edges.due("on to Y", x.boat(0, 1), 2);
        edges.due("on to Y", x.boat(1, 1), 0);
    }

    private void boatsAtTheirEnd() {
        edges.of(PART, "one that is not at Y");
        GurdyTide x = Check.on("c0,0,0,0,0,0,0,0,0,0;t0 1;b1 9 9;b1 0 0;b1 8 9;b1 1 0;");
        for (int i = 0; i < 3; i++) {
            x.turn(0, 99);
            x.hour(1);
            edges.due("at the last cell", x.boat(0, 1), 9);
            edges.due("at the first cell", x.boat(1, 1), 0);
            edges.due("came to the last", x.boat(2, 1), 9);
            edges.due("came to the first", x.boat(3, 1), 0);
        }
    }

    private void aground() {
        edges.of(PART, "AGROUND: one for which DEPTH where it is is less (at Y, too).");
        GurdyTide x = Check.on("c10,0;t0 20;b5 0 1;b5 0 0;b6 0 1;b1 1 1;");
        edges.due("all", x.told(9), 15);
        x.turn(0, 14);
        edges.due("4 of 5, 5, 6; 0 of 1", x.told(9), 15);
        x.turn(0, 15);
        edges.due("5 of 5, 5, 6; 0 of 1", x.told(9), 4 + 8);
        x.turn(0, 16);
        edges.due("6 of 5, 5, 6; 0 of 1", x.told(9), 8);
        x.turn(0, 21);
        edges.due("none", x.told(9), 0);
    }

    private void hoursFromNought() {
        edges.of(PART, "HOURS are counted from 0.");
        GurdyTide x = Check.on("c0,0;p1;");
        edges.due("at first", x.told(5), 0);
        edges.due("one", x.hour(1), 1);
        edges.due("and sixty", x.hour(60), 61);
        edges.due("and one by draws", x.drift(1), 62);
        edges.due("all", x.told(5), 62);
    }

    private void sits() {
        edges.of(PART, "SITS: a PLAYER comes to a TOWER (from where he is)");
        GurdyTide x = Check.on("c0,0;t0 1;t1 1;p1;");
        edges.due("from nowhere", x.sit(0, 1), Edges.NONE);
        edges.due("from the other", x.sit(0, 0), 1);
        edges.due("the other is free", x.tower(1, 3), Edges.NONE);
        edges.due("he is here", x.tower(0, 3), 0);
        edges.due("his tower", x.player(0, 2), 0);
    }

    private void rests() {
        edges.of(PART, "RESTS: he leaves it.");
        GurdyTide x = Check.on("c0,0;t0 1;t1 1;p1;p1;");
        x.sit(1, 0);
        x.sit(0, 1);
        edges.due("leaves", x.rest(1), 0);
        edges.due("free", x.tower(0, 3), Edges.NONE);
        edges.due("the other sits", x.told(11), 1);
    }

    private void sleepsAndWakes() {
        edges.of(PART, "SLEEPS, or WAKES.");
        GurdyTide x = Check.on("c0,0;t0 1;p1;p1;");
        x.sit(0, 0);
        x.sleep(0, true);
        edges.due("he sits still", x.player(0, 2), 0);
        edges.due("he sleeps", x.player(0, 3), 1);
        edges.due("he alone", x.told(12), 1);
        x.sleep(0, false);
        edges.due("he is awake", x.player(0, 3), 0);
        edges.due("he sits still", x.player(0, 2), 0);
    }

    private void turned() {
        edges.of(PART, "TURNED: a TOWER is WOUND to another number at once.");
        GurdyTide x = Check.on("c0,0;t0 1;t1 1;");
        x.turn(0, 99);
        edges.due("at once", x.cell(0, 1), 99);
        edges.due("no hour", x.told(5), 0);
        edges.due("the other is not", x.tower(1, 2), 0);
        edges.due("to the same number", x.turn(0, 99), 99);
        x.turn(0, 0);
        edges.due("down at once", x.cell(0, 1), 0);
    }

    private void sent() {
        edges.of(PART, "SENT: a BOAT is at X again.");
        GurdyTide x = Check.on("c0,0;t0 1;b1 0 1;b1 1 0;");
        x.turn(0, 9);
        x.hour(1);
        edges.due("from Y", x.send(0), 1);
        edges.due("at X", x.boat(0, 1), 0);
        edges.due("the other is not", x.boat(1, 1), 0);
        edges.due("at X already", x.send(0), 0);
        edges.due("at X", x.boat(0, 1), 0);
    }
}
