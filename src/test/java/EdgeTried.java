import java.util.function.ToIntFunction;

/** Section 3, its first half: the edges of what is tried. */
final class EdgeTried {
    private static final String PART = "Section 3";
    private final Edges edges;

    EdgeTried(Edges edges) {
        this.edges = edges;
    }

    void run() {
        nothingChanges();
        seaBehindHours();
        deepestBounds();
        deepestOfLikeOnes();
        comesBounds();
        comesNever();
        slope();
        slopeOfLikeOnes();
        wet();
        seatsDepth();
        seatsHours();
        seatsAllOthersRest();
        seatsOwnTowers();
        seatsAsTheyAre();
        seatsFewest();
        seatsOfLeastArms();
        seatsFirst();
        seatsNone();
        leaveLeastSlope();
        leaveOfLikeOnes();
        strongest();
        shares();
        sharesOfNothing();
        calm();
    }

    private void nothingChanges() {
        edges.of(PART, "TRIED from now, as nothing else is done; nothing changes by it.");
        unchanged("sea", x -> x.sea(0, 100, 1));
        unchanged("deepest", x -> x.deepest(0, 100, 0));
        unchanged("comes", x -> x.comes(0));
        unchanged("seats", x -> x.seats(0, 20, 20, Edges.NONE));
        unchanged("seats of one", x -> x.seats(1, 99, 20, 2));
        unchanged("leave", x -> x.leave(0));
        unchanged("share", x -> x.share(999, Edges.NONE));
        unchanged("calm", x -> x.calm(60, 99));
        unchanged("look", x -> x.look());
        unchanged("judge", x -> x.judge());
        unchanged("slept", x -> x.told(14));
        unchanged("guts", x -> x.told(16));
        unchanged("slope", x -> x.told(6));
    }

    private void unchanged(String call, ToIntFunction<GurdyTide> made) {
        GurdyTide x = EdgeTerms.rich();
        made.applyAsInt(x);
        edges.same("behind " + call, Picture.deep(x), Picture.deep(EdgeTerms.rich()));
    }

    private void seaBehindHours() {
        edges.of(PART, "SEA, DEPTH behind n HOURS (0 .. 100).");
        GurdyTide x = Check.on("c3,0;t0 5;t1 20;p9;p1;");
        x.sit(0, 0);
        x.turn(1, 99);
        edges.bounds("sea n", 0, 100, n -> x.sea(0, n, 0));
        edges.bounds("depth n", 0, 100, n -> x.sea(0, n, 1));
        edges.due("sea now", x.sea(0, 0, 0), 0 + 79);
        edges.due("depth now", x.sea(0, 0, 1), 76);
        edges.due("sea behind 1", x.sea(0, 1, 0), 9 + 76);
        // 45, 85, then two hours of 7: 99; the other is let down to 0 behind 33
        edges.due("sea behind 100", x.sea(0, 100, 0), 99);
        edges.due("depth behind 100", x.sea(0, 100, 1), 96);
        edges.due("sea at 1 behind 32", x.sea(1, 32, 0), 94 + 3);
        edges.due("sea at 1 behind 33", x.sea(1, 33, 0), 94);
        x.sleep(0, true);
        edges.due("as he sleeps: sea behind 26", x.sea(0, 26, 0), 1);
        edges.due("depth is 0 at least", x.sea(0, 26, 1), 0);
    }

    private void deepestBounds() {
        edges.of(PART, "DEEPEST: behind how many of 0 to n HOURS (0 .. 100) DEPTH at a CELL is most");
        GurdyTide x = Check.on("c10,0;t0 5;p5;");
        x.sit(0, 0);
        edges.bounds("deepest n", 0, 100, n -> x.deepest(0, n, 0));
        edges.bounds("deepest n, how much", 0, 100, n -> x.deepest(0, n, 1));
        // five hours each of 5, 4, 3, 2, 1: 25, 45, 60, 70, 75
        edges.due("of 0", x.deepest(0, 0, 0), 0);
        edges.due("of 1: not above the ground", x.deepest(0, 1, 0), 0);
        edges.due("of 2: as high as the ground", x.deepest(0, 2, 0), 0);
        edges.due("of 3", x.deepest(0, 3, 0), 3);
        edges.due("of 24", x.deepest(0, 24, 0), 24);
        edges.due("of 24, how much", x.deepest(0, 24, 1), 64);
        edges.due("of 25", x.deepest(0, 25, 0), 25);
        edges.due("of 25, how much", x.deepest(0, 25, 1), 65);
        edges.due("of 26", x.deepest(0, 26, 0), 25);
        edges.due("of 100", x.deepest(0, 100, 0), 25);
        edges.due("of 100, how much", x.deepest(0, 100, 1), 65);
    }

    private void deepestOfLikeOnes() {
        edges.of(PART, "of like ones the first; how much");
        GurdyTide x = Check.on("c60,0;t0 5;t1 5;p3;");
        edges.due("never wet: when", x.deepest(0, 100, 0), 0);
        edges.due("never wet: how much", x.deepest(0, 100, 1), 0);
        x.sit(0, 0);
        x.turn(0, 70);
        x.turn(1, 20);
        // at 0: 85, then 3 more and 3 less: 85 each hour, until the other bears no more
        edges.due("as deep now as behind 5", x.deepest(0, 5, 0), 0);
        edges.due("how much", x.deepest(0, 5, 1), 25);
        // behind 5 hours 85 + 0, then 2, 2, 2, 2, 2, 1, 1, 1, 1, 1, 0 more: 99 at most
        edges.due("of 100", x.deepest(0, 100, 0), 14);
        edges.due("how much of 100", x.deepest(0, 100, 1), 39);
    }

    private void comesBounds() {
        edges.of(PART, "COMES: behind how many HOURS (0 .. 200) a BOAT is at Y first");
        GurdyTide x = Check.on("c45,44,0,0,0,0,0,0,0,0;t0 1;p5;b30 0 9;b30 0 0;b30 9 9;b30 0 1;");
        edges.due("at Y, aground", x.comes(1), 0);
        edges.due("at Y, aground", x.comes(2), 0);
        x.sit(0, 0);
        // wound to 75 behind 25 hours, and to no more ever: then depth is 30 at 0
        edges.due("goes in the last hour that winds", x.comes(3), 25);
        edges.due("one cell an hour from then on", x.comes(0), 33);
        x.hour(24);
        edges.due("an hour ahead of it", x.comes(0), 9);
        x.hour(8);
        edges.due("an hour from Y", x.boat(0, 1), 8);
        edges.due("comes", x.comes(0), 1);
        x.hour(1);
        edges.due("is there", x.comes(0), 0);
        x.rest(0);
        x.hour(60);
        edges.due("stays there", x.comes(0), 0);
        x.send(0);
        edges.due("sent again, dry", x.comes(0), Edges.NONE);
    }

    private void comesNever() {
        edges.of(PART, "a BOAT is at Y first; NONE.");
        GurdyTide x = Check.on("c46,0;t0 1;p5;b30 0 1;b29 0 1;b1 1 0;");
        x.sit(0, 0);
        edges.due("29 of 30", x.comes(0), Edges.NONE);
        edges.due("29 of 29", x.comes(1), 25);
        // 25 behind 5 hours, 45 behind 10, 48 behind 11
        edges.due("1 deep", x.comes(2), 11);
        x.rest(0);
        edges.due("nobody winds", x.comes(2), Edges.NONE);
        x.turn(0, 60);
        edges.due("it sinks slowly enough", x.comes(2), 1);
        GurdyTide y = Check.on("c0,0,0,0,0,0,0,0,0,0;t4 1;b5 0 9;");
        y.turn(0, 35);
        // behind 8 hours wound to 11: at 8 it bears 7, behind 9 hours to 8: at 9 it bears 3
        edges.due("it sinks too soon", y.comes(0), Edges.NONE);
        y.turn(0, 37);
        // behind 9 hours wound to 10: 5 at 9, and 6 at 8
        edges.due("it sinks just not too soon", y.comes(0), 9);
        y.turn(0, 36);
        // behind 9 hours wound to 9: 4 at 9
        edges.due("one less", y.comes(0), Edges.NONE);
    }

    private void slope() {
        edges.of(PART, "SLOPE: the greatest unlikeness of SEA at two CELLS side by side; the lesser CELL of them");
        GurdyTide x = Check.on("c60,0,7;t0 7;t2 9;");
        edges.due("no sea", x.told(6), 0);
        edges.due("no sea, its cell", x.told(7), 0);
        x.turn(1, 1);
        // sea 0, 0, 1
        edges.due("up at the end", x.told(6), 1);
        edges.due("its lesser cell", x.told(7), 1);
        x.turn(0, 8);
        // sea 8, 1, 1
        edges.due("down at the beginning", x.told(6), 7);
        edges.due("its lesser cell", x.told(7), 0);
        x.turn(1, 99);
        // sea 8 + 81, 1 + 90, 99
        edges.due("up again", x.told(6), 8);
        edges.due("its lesser cell", x.told(7), 1);
        GurdyTide y = Check.on("c0,0;t0 20;t0 20;t0 20;t0 20;t0 20;t0 20;");
        for (int t = 0; t < 6; t++) {
            y.turn(t, 99);
        }
        edges.due("the greatest that there is", y.told(6), 120);
        edges.due("no coast", new GurdyTide().told(6), 0);
    }

    private void slopeOfLikeOnes() {
        edges.of(PART, "the lesser CELL of them; of like ones the least");
        GurdyTide x = Check.on("c0,0,0,0,0,0,0,0,0,0;t5 3;t9 3;");
        edges.due("all are like", x.told(7), 0);
        x.turn(0, 99);
        edges.due("up and down alike", x.told(6), 3);
        edges.due("the least", x.told(7), 0);
        x.turn(0, 4);
        // sea 1, 4, 1 at 4, 5, 6
        edges.due("3 up, 3 down", x.told(6), 3);
        edges.due("the least", x.told(7), 4);
        x.turn(0, 0);
        x.turn(1, 3);
        edges.due("at the last two alone", x.told(7), 8);
    }

    private void wet() {
        edges.of(PART, "WET: CELLS (a SET) with DEPTH of 1 or more.");
        GurdyTide x = Check.on("c0,5,0;t1 5;");
        edges.due("none", x.told(8), 0);
        x.turn(0, 5);
        edges.due("as high as the ground", x.told(8), 0);
        x.turn(0, 6);
        edges.due("1 above the ground", x.told(8), 7);
        x.turn(0, 1);
        edges.due("below the ground", x.told(8), 0);
    }

    private void plan(GurdyTide x, int d, int n, int... due) {
        String call = "seats(0, " + d + ", " + n + ")";
        edges.due(call + " how many", x.seats(0, d, n, Edges.NONE), due[0]);
        for (int p = 1; p < due.length; p++) {
            edges.due(call + " tower of " + (p - 1), x.seats(0, d, n, p - 1), due[p]);
        }
    }

    private void seatsDepth() {
        edges.of(PART, "SEATS so that DEPTH at a CELL is d (0 .. 99) or more behind n HOURS (1 .. 20)");
        GurdyTide x = Check.on("c60,0;t0 1;t0 1;p9;p9;");
        edges.bounds("d", 0, 99, d -> x.seats(0, d, 1, Edges.NONE));
        edges.bounds("d, of a player", 0, 99, d -> x.seats(0, d, 1, 1));
        // one alone winds 99 at most: 39 deep; two 198: 138 deep
        plan(x, 0, 20, 0, -1, -1);
        plan(x, 1, 20, 1, 0, -1);
        plan(x, 39, 20, 1, 0, -1);
        plan(x, 40, 20, 2, 0, 1);
        plan(x, 99, 20, 2, 0, 1);
        x.turn(0, 64);
        // left alone it is 61 behind an hour
        plan(x, 1, 1, 0, -1, -1);
        plan(x, 2, 1, 1, 0, -1);
        plan(x, 13, 1, 1, 0, -1);
        plan(x, 14, 1, 2, 0, 1);
        plan(x, 22, 1, 2, 0, 1);
        plan(x, 23, 1, -1, -1, -1);
    }

    private void seatsHours() {
        edges.of(PART, "SEATS so that DEPTH at a CELL is d (0 .. 99) or more behind n HOURS (1 .. 20)");
        GurdyTide x = Check.on("c0,0;t0 1;p5;");
        edges.bounds("n", 1, 20, n -> x.seats(0, 1, n, Edges.NONE));
        edges.bounds("n, of a player", 1, 20, n -> x.seats(0, 1, n, 0));
        plan(x, 5, 1, 1, 0);
        plan(x, 6, 1, -1, -1);
        plan(x, 68, 19, 1, 0);
        plan(x, 69, 19, -1, -1);
        plan(x, 70, 20, 1, 0);
        plan(x, 71, 20, -1, -1);
        x.turn(0, 99);
        plan(x, 39, 20, 0, -1);
        plan(x, 40, 20, 1, 0);
    }

    private void seatsAllOthersRest() {
        edges.of(PART, "all PLAYERS rest but those of a plan");
        GurdyTide x = Check.on("c0,0;t0 1;t0 1;p9;p2;");
        x.sit(0, 0);
        x.sit(1, 1);
        // they sit now, but none is counted who is not of the plan
        plan(x, 9, 1, 1, 0, -1);
        plan(x, 2, 1, 1, -1, 0);
        plan(x, 10, 1, 2, 0, 1);
        x.turn(0, 30);
        x.turn(1, 30);
        plan(x, 54, 1, 0, -1, -1);
        plan(x, 55, 1, 1, -1, 0);
        edges.due("they sit as they did", x.told(11), 3);
    }

    private void seatsOwnTowers() {
        edges.of(PART, "each at an own TOWER, from now on");
        GurdyTide x = Check.on("c0,0;t0 1;p5;p5;p5;");
        plan(x, 5, 1, 1, 0, -1, -1);
        plan(x, 6, 1, -1, -1, -1, -1);
        GurdyTide y = Check.on("c0,0;t0 1;t0 1;p5;p5;p5;");
        plan(y, 10, 1, 2, 0, 1, -1);
        plan(y, 11, 1, -1, -1, -1, -1);
        GurdyTide z = Check.on("c0,0;t0 1;t1 1;t0 1;p5;");
        plan(z, 5, 1, 1, 0);
        plan(z, 6, 1, -1, -1);
        z.turn(2, 9);
        plan(z, 11, 1, 1, 0);
        plan(z, 14, 1, 1, 2);
        plan(z, 15, 1, -1, -1);
    }

    private void seatsAsTheyAre() {
        edges.of(PART, "(asleep, TIRED as they are)");
        GurdyTide x = Check.on("c0,0;t0 1;t0 1;p3;p3;");
        x.sleep(0, true);
        plan(x, 3, 1, 1, -1, 0);
        plan(x, 4, 1, -1, -1, -1);
        x.sleep(1, true);
        plan(x, 0, 1, 0, -1, -1);
        plan(x, 1, 1, -1, -1, -1);
        GurdyTide y = Check.on("c0,0;t0 1;p3;p2;");
        y.sit(0, 0);
        y.hour(4);
        y.turn(0, 0);
        // player 0 is tired by 4: 3 in this hour, then 2
        plan(y, 3, 1, 1, 0, -1);
        plan(y, 5, 2, 1, 0, -1);
        plan(y, 6, 2, -1, -1, -1);
        y.hour(60);
        y.turn(0, 0);
        plan(y, 2, 1, 1, -1, 0);
        plan(y, 3, 1, -1, -1, -1);
    }

    private void seatsFewest() {
        edges.of(PART, "the fewest; of like ones those of the least ARMS together");
        GurdyTide x = Check.on("c0,0;t0 1;t0 1;t0 1;p1;p1;p9;");
        plan(x, 1, 1, 1, 0, -1, -1);
        plan(x, 2, 1, 1, -1, -1, 0);
        plan(x, 9, 1, 1, -1, -1, 0);
        plan(x, 10, 1, 2, 0, -1, 1);
        plan(x, 11, 1, 3, 0, 1, 2);
        plan(x, 12, 1, -1, -1, -1, -1);
    }

    private void seatsOfLeastArms() {
        edges.of(PART, "of like ones those of the least ARMS together");
        GurdyTide x = Check.on("c0,0;t0 1;t0 1;p9;p5;p4;p6;");
        plan(x, 4, 1, 1, -1, -1, 0, -1);
        plan(x, 5, 1, 1, -1, 0, -1, -1);
        plan(x, 6, 1, 1, -1, -1, -1, 0);
        plan(x, 7, 1, 1, 0, -1, -1, -1);
        plan(x, 10, 1, 2, -1, -1, 0, 1);
        plan(x, 11, 1, 2, -1, 0, -1, 1);
        plan(x, 13, 1, 2, 0, -1, 1, -1);
        plan(x, 15, 1, 2, 0, -1, -1, 1);
        plan(x, 16, 1, -1, -1, -1, -1, -1);
    }

    private void seatsFirst() {
        edges.of(PART, "of like ones the first (PLAYER by PLAYER the lesser TOWER, resting last)");
        GurdyTide x = Check.on("c0,0;t1 1;t0 1;t0 1;p4;p4;p4;");
        // tower 0 stands one cell off and bears 3 when wound to 4
        plan(x, 3, 1, 1, 0, -1, -1);
        plan(x, 4, 1, 1, 1, -1, -1);
        plan(x, 7, 1, 2, 0, 1, -1);
        plan(x, 8, 1, 2, 1, 2, -1);
        plan(x, 11, 1, 3, 0, 1, 2);
        // arms 4 and 4 with 5 and 3: of the least arms player 0 sits rather than rests
        GurdyTide y = Check.on("c0,0;t0 1;t0 1;p5;p4;p4;p3;");
        plan(y, 8, 1, 2, 0, -1, -1, 1);
        plan(y, 7, 1, 2, -1, 0, -1, 1);
    }

    private void seatsNone() {
        edges.of(PART, "how many; the TOWER of a PLAYER (NONE: rests); NONE: by no plan.");
        GurdyTide x = Check.on("c7,0;t0 1;p3;p9;");
        plan(x, 1, 1, 1, -1, 0);
        plan(x, 2, 1, 1, -1, 0);
        plan(x, 3, 1, -1, -1, -1);
        GurdyTide bare = Check.on("c7,0;");
        plan(bare, 0, 20, 0);
        plan(bare, 1, 20, -1);
        edges.due("no towers, ground 0", bare.seats(1, 0, 1, Edges.NONE), 0);
        edges.due("no towers, ground 0", bare.seats(1, 1, 1, Edges.NONE), Edges.NONE);
        GurdyTide towers = Check.on("c7,0;t0 1;");
        towers.turn(0, 11);
        plan(towers, 1, 1, 0);
        plan(towers, 2, 1, -1);
        GurdyTide players = Check.on("c7,0;p9;");
        plan(players, 0, 1, 0, -1);
        plan(players, 1, 20, -1, -1);
    }

    private void leaveLeastSlope() {
        edges.of(PART, "LEAVE: the TOWER which, WOUND to 0, makes SLOPE least now");
        GurdyTide x = Check.on("c0,0,0;t0 1;t1 9;t2 4;");
        x.turn(0, 9);
        x.turn(1, 20);
        x.turn(2, 30);
        // sea 9+11+22, 8+20+26, 7+11+30: slope 12; less 0: 33, 46, 41; less 1: 31, 34, 37; less 2: 20, 28, 18
        edges.due("which", x.leave(0), 1);
        edges.due("how much", x.leave(1), 3);
        edges.due("slope is as it was", x.told(6), 12);
        GurdyTide one = Check.on("c0,0;t0 20;");
        one.turn(0, 99);
        edges.due("the only one", one.leave(0), 0);
        edges.due("no sea then", one.leave(1), 0);
        // that one is wound to 0 may make the slope greater; one must be left all the same
        GurdyTide even = Check.on("c0,0;t0 5;t1 5;");
        even.turn(0, 9);
        even.turn(1, 9);
        edges.due("even", even.told(6), 0);
        edges.due("which", even.leave(0), 0);
        edges.due("how much", even.leave(1), 5);
    }

    private void leaveOfLikeOnes() {
        edges.of(PART, "makes SLOPE least now; of like ones the least; how much then");
        GurdyTide x = Check.on("c0,0;t0 1;t1 1;t0 1;t1 1;");
        edges.due("none is wound", x.leave(0), 0);
        edges.due("none is wound", x.leave(1), 0);
        x.turn(1, 9);
        x.turn(3, 9);
        // slope 2, less 1 or 3: 1
        edges.due("the lesser of two", x.leave(0), 1);
        edges.due("how much", x.leave(1), 1);
        GurdyTide y = Check.on("c0,0;t0 1;t0 2;t0 3;");
        y.turn(0, 50);
        y.turn(1, 50);
        y.turn(2, 50);
        edges.due("the last of three", y.leave(0), 2);
        edges.due("how much", y.leave(1), 3);
    }

    private void strongest() {
        edges.of(PART, "STRONGEST: the TOWER that bears most of SEA at a CELL; of like ones the least; NONE: none bears any.");
        GurdyTide x = Check.on("c60,0;t1 5;t0 1;t0 1;");
        edges.due("none is wound", x.cell(0, 3), Edges.NONE);
        x.turn(0, 5);
        edges.due("borne to 0", x.cell(0, 3), Edges.NONE);
        edges.due("at its own", x.cell(1, 3), 0);
        x.turn(0, 6);
        edges.due("bears 1, though it is dry", x.cell(0, 3), 0);
        x.turn(2, 1);
        edges.due("1 and 1", x.cell(0, 3), 0);
        x.turn(2, 2);
        edges.due("1 and 2", x.cell(0, 3), 2);
        x.turn(1, 2);
        edges.due("1, 2 and 2", x.cell(0, 3), 1);
        edges.due("no towers", Check.on("c0,0;").cell(1, 3), Edges.NONE);
        GurdyTide six = Check.on("c0,0;t0 1;t0 1;t0 1;t0 1;t0 1;t0 1;");
        edges.due("none of six", six.cell(1, 3), Edges.NONE);
        for (int t = 0; t < 6; t++) {
            six.turn(t, 10 + t);
            edges.due("the latest of six", six.cell(1, 3), t);
        }
    }

    private void shares() {
        edges.of(PART, "SHARES: x (0 .. 999) PENCE for all CELLS that are not WET, by GROUND each");
        GurdyTide x = Check.on("c60,0,30,3;t0 20;");
        edges.bounds("x, of a cell", 0, 999, v -> x.share(v, 0));
        edges.bounds("x, left over", 0, 999, v -> x.share(v, Edges.NONE));
        edges.due("0 of 0", x.share(0, 0), 0);
        edges.due("0 left over", x.share(0, Edges.NONE), 0);
        int[] due = {644, 0, 322, 32};
        for (int c = 0; c < 4; c++) {
            edges.due("999 by 93, of " + c, x.share(999, c), due[c]);
        }
        edges.due("999 left over", x.share(999, Edges.NONE), 1);
        x.turn(0, 60);
        // sea 60, 40, 20, 0: 0 is as high as its ground, 1 is wet
        edges.due("0 is not wet", x.share(93, 0), 60);
        edges.due("1 is wet", x.share(93, 1), 0);
        edges.due("nothing left over", x.share(93, Edges.NONE), 0);
        x.turn(0, 61);
        // now 0 is wet: 33 are left
        edges.due("0 is wet", x.share(33, 0), 0);
        edges.due("of 2", x.share(33, 2), 30);
        edges.due("of 3", x.share(33, 3), 3);
    }

    private void sharesOfNothing() {
        edges.of(PART, "x times GROUND / all these together (cut; 0 if they are 0): of a CELL; what is left over.");
        GurdyTide flat = Check.on("c0,0,0;t0 1;");
        edges.due("all ground is 0", flat.share(999, 0), 0);
        edges.due("all is left over", flat.share(999, Edges.NONE), 999);
        GurdyTide least = Check.on("c0,1,0;t0 1;");
        edges.due("all ground together is 1", least.share(999, 1), 999);
        edges.due("nothing is left over", least.share(999, Edges.NONE), 0);
        GurdyTide x = Check.on("c7,7,7;t1 1;");
        edges.due("1 of three: cut", x.share(1, 2), 0);
        edges.due("1 left over", x.share(1, Edges.NONE), 1);
        edges.due("2 left over", x.share(2, Edges.NONE), 2);
        edges.due("0 left over", x.share(3, Edges.NONE), 0);
        edges.due("5 of three: cut", x.share(5, 1), 1);
        edges.due("2 left over", x.share(5, Edges.NONE), 2);
        x.turn(0, 99);
        edges.due("all are wet", x.share(999, 1), 0);
        edges.due("all is left over", x.share(999, Edges.NONE), 999);
        edges.due("no coast: all is left over", new GurdyTide().share(999, Edges.NONE), 999);
        edges.due("no coast: nothing of nothing", new GurdyTide().share(0, Edges.NONE), 0);
    }

    private void calm() {
        edges.of(PART, "CALM: odds of n calm days (0 .. 60), each by q of a hundred (0 .. 100)");
        GurdyTide x = new GurdyTide();
        edges.bounds("n", 0, 60, n -> x.calm(n, 50));
        edges.bounds("q", 0, 100, q -> x.calm(2, q));
        edges.due("0 days, never calm", x.calm(0, 0), 1000000000);
        edges.due("60 days, ever calm", x.calm(60, 100), 1000000000);
        edges.due("1 day, never calm", x.calm(1, 0), 0);
        edges.due("60 days, never calm", x.calm(60, 0), 0);
        edges.of(PART, "a BILLION times q / 100 each (cut)");
        edges.due("4 days of 1", x.calm(4, 1), 10);
        edges.due("5 days of 1: 0.1 is cut", x.calm(5, 1), 0);
        // 1291467 * 33 / 100 is 426184.11
        edges.due("7 days of 33", x.calm(7, 33), 426184);
        long each = 1000000000L;
        for (int day = 1; day <= 60; day++) {
            each = each * 99 / 100;
            edges.due(day + " days of 99", x.calm(day, 99), each);
        }
    }
}
