/** Promises 1 to 17: the edges that each call's own words name. */
final class EdgeCalls {
    private final Edges edges;

    EdgeCalls(Edges edges) {
        this.edges = edges;
    }

    void run() {
        newObject();
        feed();
        coastEmptiesTheText();
        coastMakesAllAnew();
        coastKeepsNothingOfOthers();
        coastWithAFault();
        fault();
        told();
        toldWithoutCoast();
        toldWhenMost();
        cell();
        tower();
        player();
        boat();
        hour();
        hourLate();
        sit();
        rest();
        sleep();
        turn();
        send();
        drift();
        undo();
    }

    private void newObject() {
        edges.of("Promise 1", "No COAST.");
        GurdyTide x = new GurdyTide();
        for (int what = 0; what <= 18; what++) {
            edges.due("told " + what, x.told(what), what == 7 ? Edges.NONE : what == 16 ? 2097150 : 0);
        }
        edges.due("fault", x.fault(), Edges.NONE);
        edges.due("hour", x.hour(1), Edges.NOT);
        edges.due("drift", x.drift(1), Edges.NOT);
        edges.due("undo", x.undo(), Edges.NOT);
        edges.due("goBack 0", x.goBack(0), Edges.NOT);
        edges.due("goBack 1", x.goBack(1), Edges.NOT);
        edges.due("leave", x.leave(0), Edges.NONE);
        edges.due("look", x.look(), Edges.NONE);
        edges.due("judge", x.judge(), Edges.NONE);
        edges.due("tear", x.tear(), 0);
        edges.due("seed", x.seed(0), 0);
        edges.due("coast", x.coast(), 0);
    }

    private void feed() {
        edges.of("Promise 2", "One letter (a number 0 .. 255) comes behind THE TEXT: how many it has. OUTSIDE, FULL (240).");
        GurdyTide x = new GurdyTide();
        edges.bounds("letter", 0, 255, x::feed);
        edges.due("two were taken", x.told(4), 2);
        for (int i = 3; i <= 240; i++) {
            edges.due("feed", x.feed(i % 256), i);
        }
        edges.due("the 241st", x.feed(0), Edges.FULL);
        edges.due("the 241st", x.feed(255), Edges.FULL);
        edges.due("the 241st, no letter", x.feed(-1), Edges.OUTSIDE);
        edges.due("letters", x.told(4), 240);
        x.coast();
        edges.due("the first again", x.feed('c'), 1);
        GurdyTide y = new GurdyTide();
        Check.feed(y, " ".repeat(235) + "c0,0;");
        edges.due("the 240th counts", y.coast(), 2);
    }

    private void coastEmptiesTheText() {
        edges.of("Promise 3", "THE TEXT (it is empty then, with a FAULT, too) becomes THE COAST");
        GurdyTide x = new GurdyTide();
        Check.feed(x, "c0,0;");
        edges.due("coast", x.coast(), 2);
        edges.due("it is empty", x.told(4), 0);
        Check.feed(x, "c0,0,0");
        edges.due("a fault", x.coast(), -11);
        edges.due("it is empty", x.told(4), 0);
        Check.feed(x, ";c");
        edges.due("nothing is left of the old text", x.coast(), -11);
        edges.due("at its first letter", x.fault(), 0);
        Check.feed(x, "c0,0,0;");
        edges.due("a coast", x.coast(), 3);
        edges.due("an empty text", x.coast(), 0);
        edges.due("an empty text again", x.coast(), 0);
    }

    private void coastMakesAllAnew() {
        edges.of("Promise 3", "(HOUR 0, TOWERS not WOUND, PLAYERS rest, awake, not TIRED, BOATS at X; no MARKS, nothing SEEN, "
                + "no BOOK; IMAGES, what could be undone are gone; THE SEED stays)");
        String text = "c0,0;t0 1;p9;p9;b1 0 1;";
        GurdyTide x = Check.on(text);
        x.sit(0, 0);
        x.sleep(1, true);
        x.keep(0);
        x.keep(1);
        x.hour(3);
        x.mark(0, 1, 0);
        x.see(0, 0, 1);
        x.write(0, 0);
        x.seed(99);
        edges.due("the boat has gone", x.boat(0, 1), 1);
        Check.feed(x, text);
        edges.due("coast", x.coast(), 2);
        GurdyTide y = Check.on(text);
        y.seed(99);
        edges.same("as a new object, but for the seed", Picture.deep(x), Picture.deep(y));
        edges.due("image 0 is gone", x.goBack(0), Edges.NOT);
        edges.due("image 1 is gone", x.goBack(1), Edges.NOT);
        // a coast that has fewer of all things than the one ahead of it
        GurdyTide z = EdgeTerms.rich();
        z.coast();
        Check.feed(z, "c0,0;");
        edges.due("coast", z.coast(), 2);
        edges.due("no tower", z.tower(0, 0), Edges.UNKNOWN);
        edges.due("no player", z.player(0, 0), Edges.UNKNOWN);
        edges.due("no boat", z.boat(0, 0), Edges.UNKNOWN);
        edges.due("who sits", z.told(11), 0);
        edges.due("who sleeps", z.told(12), 0);
        edges.due("no cell 2", z.cell(2, 0), Edges.UNKNOWN);
    }

    private void coastKeepsNothingOfOthers() {
        edges.of("Promise 3", "THE TEXT (it is empty then, with a FAULT, too) becomes THE COAST");
        String[] others = {"c5,5,5;t0 1;t1 1;p1;p2;b1 0 1;b2 0 1;", "c5,5,5;t0 1;t1 1;p1;p2;b1 0 1;b2 0 1;x"};
        for (String other : others) {
            GurdyTide x = new GurdyTide();
            for (int i = 0; i < 3; i++) {
                Check.feed(x, other);
                x.coast();
                Check.feed(x, "c0,0;");
                edges.due("two cells behind " + other, x.coast(), 2);
                edges.same("no more than these", Picture.of(x), Picture.of(Check.on("c0,0;")));
            }
            Check.feed(x, "c0,0;t1 9;p9;b9 1 0;");
            x.coast();
            edges.same("one of each", Picture.of(x), Picture.of(Check.on("c0,0;t1 9;p9;b9 1 0;")));
        }
    }

    private void coastWithAFault() {
        edges.of("Promise 3", "how many CELLS; -10 less the number of its FAULT (all else is as it was)");
        String[] texts = {"x", "c0,0", "c0,0,0,0;t0 4;p3;b1 0 1", "c61,0;", "c0,0;t9 1;", "c0,0;c0,0;"};
        int[] due = {-11, -11, -11, -12, -12, -13};
        for (int i = 0; i < texts.length; i++) {
            GurdyTide x = EdgeTerms.rich();
            x.feed(' ');
            GurdyTide y = EdgeTerms.rich();
            edges.due("the old text", x.coast(), -11);
            edges.due("the old text", y.coast(), -11);
            Check.feed(x, texts[i]);
            edges.due("coast of " + texts[i], x.coast(), due[i]);
            edges.same("all else is as it was", Picture.deepButFault(x), Picture.deepButFault(y));
        }
        edges.text("c0,0;", 2, Edges.NONE);
        edges.text("c0,0,0,0,0,0,0,0,0,0;", 10, Edges.NONE);
    }

    private void fault() {
        edges.of("Promise 4", "The letter of the FAULT of the latest coast(); NONE.");
        GurdyTide x = new GurdyTide();
        edges.due("no coast() yet", x.fault(), Edges.NONE);
        x.feed('x');
        edges.due("no coast() yet", x.fault(), Edges.NONE);
        x.coast();
        edges.due("at 0", x.fault(), 0);
        Check.feed(x, "c0,0");
        edges.due("still that of the latest coast()", x.fault(), 0);
        x.coast();
        edges.due("at the end", x.fault(), 4);
        Check.feed(x, "c0,0;");
        x.coast();
        edges.due("no fault", x.fault(), Edges.NONE);
        Check.feed(x, "c" + "0".repeat(239));
        x.coast();
        edges.due("at 1", x.fault(), 1);
        x.coast();
        edges.due("an empty text has none", x.fault(), Edges.NONE);
        Check.feed(x, "c0,0,0" + " ".repeat(234));
        x.coast();
        edges.due("the last that there is", x.fault(), 240);
    }

    private void told() {
        edges.of("Promise 5", "18 how many can be undone. OUTSIDE.");
        GurdyTide x = EdgeTerms.rich();
        edges.bounds("what", 0, 18, x::told);
        // the towers are wound to 20 and 18: sea 20 + 16 and 16 + 18; behind two hours 42 at 0 if player 1 slept
        int[] due = {2, 2, 3, 1, 2, 3, 2, 0, 3, 0, 1, 3, 2, 1, 2, 1, 1 << 3, 2, 4};
        for (int what = 0; what <= 18; what++) {
            edges.due("told " + what, x.told(what), due[what]);
        }
        edges.due("without a coast", new GurdyTide().told(19), Edges.OUTSIDE);
        edges.due("without a coast", new GurdyTide().told(-1), Edges.OUTSIDE);
    }

    private void toldWithoutCoast() {
        edges.of("Promise 5", "7 the CELL of it (NONE without a COAST)");
        GurdyTide x = new GurdyTide();
        edges.due("new", x.told(7), Edges.NONE);
        Check.feed(x, "c0,0;");
        edges.due("fed", x.told(7), Edges.NONE);
        x.coast();
        edges.due("with a coast", x.told(7), 0);
        x.coast();
        edges.due("without a coast again", x.told(7), Edges.NONE);
        edges.due("no slope", x.told(6), 0);
    }

    private void toldWhenMost() {
        edges.of("Promise 5", "0 CELLS, 1 TOWERS, 2 PLAYERS, 3 BOATS, 4 letters of THE TEXT, 5 HOURS");
        GurdyTide x = Check.on("c0,0,0,0,0,0,0,0,0,0;" + "t0 1;".repeat(6) + "p1;".repeat(6) + "b1 0 9;".repeat(4));
        edges.due("cells", x.told(0), 10);
        edges.due("towers", x.told(1), 6);
        edges.due("players", x.told(2), 6);
        edges.due("boats", x.told(3), 4);
        edges.due("all are aground", x.told(9), 15);
        for (int p = 0; p < 6; p++) {
            x.sit(p, p);
            x.sleep(p, true);
            x.turn(p, 99);
        }
        edges.due("all sit", x.told(11), 63);
        edges.due("all sleep", x.told(12), 63);
        edges.due("all are wet", x.told(8), 1023);
        edges.due("none is aground", x.told(9), 0);
        edges.due("slope", x.told(6), 6);
        x.hour(9);
        edges.due("all are at Y", x.told(10), 15);
        edges.due("can be undone", x.told(18), 16);
    }

    private void cell() {
        edges.of("Promise 6", "what = 0 GROUND, 1 SEA, 2 DEPTH, 3 STRONGEST (NONE). UNKNOWN, OUTSIDE.");
        GurdyTide x = Check.on("c0,60,9,9,9,9,9,9,9,7;t9 20;");
        edges.known("c", 10, c -> x.cell(c, 0));
        edges.bounds("what", 0, 3, what -> x.cell(9, what));
        edges.due("ground", x.cell(1, 0), 60);
        edges.due("strongest", x.cell(9, 3), Edges.NONE);
        x.turn(0, 99);
        edges.due("ground of the last", x.cell(9, 0), 7);
        edges.due("sea at the last", x.cell(9, 1), 99);
        edges.due("depth at the last", x.cell(9, 2), 92);
        edges.due("strongest at the last", x.cell(9, 3), 0);
        edges.due("strongest at the first", x.cell(0, 3), Edges.NONE);
        edges.due("unknown and outside", x.cell(10, -1), Edges.UNKNOWN);
        edges.due("no coast", new GurdyTide().cell(0, 0), Edges.UNKNOWN);
    }

    private void tower() {
        edges.of("Promise 7", "what = 0 its CELL, 1 G, 2 what it is WOUND to, 3 who sits there (NONE). UNKNOWN, OUTSIDE.");
        GurdyTide x = Check.on("c0,0;t0 1;t0 2;t0 3;t0 4;t0 5;t1 20;p1;p2;");
        edges.known("t", 6, t -> x.tower(t, 0));
        edges.bounds("what", 0, 3, what -> x.tower(5, what));
        edges.due("nobody sits there", x.tower(5, 3), Edges.NONE);
        x.sit(1, 5);
        x.turn(5, 99);
        int[] due = {1, 20, 99, 1};
        for (int what = 0; what < 4; what++) {
            edges.due("of the last " + what, x.tower(5, what), due[what]);
        }
        edges.due("unknown and outside", x.tower(6, 4), Edges.UNKNOWN);
        edges.due("no towers", Check.on("c0,0;p1;").tower(0, 0), Edges.UNKNOWN);
    }

    private void player() {
        edges.of("Promise 8", "what = 0 ARM, 1 TIRED, 2 his TOWER (NONE), 3 1 he sleeps, 0 not. UNKNOWN, OUTSIDE.");
        GurdyTide x = Check.on("c0,0;t0 1;p1;p2;p3;p4;p5;p9;");
        edges.known("p", 6, p -> x.player(p, 0));
        edges.bounds("what", 0, 3, what -> x.player(5, what));
        edges.due("he rests", x.player(5, 2), Edges.NONE);
        edges.due("he is awake", x.player(5, 3), 0);
        x.sit(5, 0);
        x.hour(1);
        x.sleep(5, true);
        int[] due = {9, 1, 0, 1};
        for (int what = 0; what < 4; what++) {
            edges.due("of the last " + what, x.player(5, what), due[what]);
        }
        edges.due("unknown and outside", x.player(6, 4), Edges.UNKNOWN);
        edges.due("no players", Check.on("c0,0;t0 1;").player(0, 0), Edges.UNKNOWN);
    }

    private void boat() {
        edges.of("Promise 9", "what = 0 DRAUGHT, 1 where it is, 2 X, 3 Y. UNKNOWN, OUTSIDE.");
        GurdyTide x = Check.on("c0,0,0;t0 1;b2 0 1;b3 0 1;b4 0 1;b30 2 0;");
        edges.known("b", 4, b -> x.boat(b, 0));
        edges.bounds("what", 0, 3, what -> x.boat(3, what));
        edges.due("at X at first", x.boat(3, 1), 2);
        x.turn(0, 99);
        x.hour(1);
        int[] due = {30, 1, 2, 0};
        for (int what = 0; what < 4; what++) {
            edges.due("of the last " + what, x.boat(3, what), due[what]);
        }
        edges.due("unknown and outside", x.boat(4, 4), Edges.UNKNOWN);
        edges.due("no boats", Check.on("c0,0;t0 1;").boat(0, 0), Edges.UNKNOWN);
    }

    private void hour() {
        edges.of("Promise 10", "n HOURS (1 .. 60): HOURS. OUTSIDE, NOT: no COAST");
        GurdyTide x = Check.on("c0,0;t0 1;");
        edges.bounds("n", 1, 60, x::hour);
        edges.due("61 are counted", x.told(5), 61);
        x.turn(0, 99);
        edges.due("one more", x.hour(1), 62);
        edges.due("it is let down once", x.tower(0, 2), 96);
        GurdyTide without = new GurdyTide();
        edges.due("no coast", without.hour(1), Edges.NOT);
        edges.due("no coast", without.hour(60), Edges.NOT);
        edges.due("no coast, outside", without.hour(61), Edges.OUTSIDE);
        edges.due("no coast, outside", without.hour(0), Edges.OUTSIDE);
        GurdyTide gone = Check.on("c0,0;");
        gone.coast();
        edges.due("no coast any more", gone.hour(1), Edges.NOT);
    }

    private void hourLate() {
        edges.of("Promise 10", "FULL: HOURS are above 9000.");
        GurdyTide x = Check.on("c0,0;");
        for (int i = 1; i <= 149; i++) {
            x.hour(60);
        }
        edges.due("8999", x.hour(59), 8999);
        edges.due("9000", x.hour(1), 9000);
        edges.due("9000 is not above 9000", x.hour(60), 9060);
        edges.due("9060 is", x.hour(1), Edges.FULL);
        edges.due("outside comes first", x.hour(61), Edges.OUTSIDE);
        edges.due("undone", x.undo(), 15);
        edges.due("9001", x.hour(1), 9001);
        edges.due("9001 is above 9000", x.hour(60), Edges.FULL);
        edges.due("hours", x.told(5), 9001);
        edges.due("can be undone", x.told(18), 16);
        // at 8999 as many as 60 may pass
        x.undo();
        x.undo();
        edges.due("8999 again", x.told(5), 8999);
        edges.due("60 from there", x.hour(60), 9059);
    }

    private void sit() {
        edges.of("Promise 11", "SITS: the TOWER where he was (NONE). UNKNOWN, NOT: somebody (perhaps he) sits there.");
        GurdyTide x = Check.on("c0,0;t0 1;t0 1;t0 1;t0 1;t0 1;t0 1;p1;p1;p1;p1;p1;p1;");
        edges.due("the last at the last", x.sit(5, 5), Edges.NONE);
        edges.due("he sits there", x.sit(5, 5), Edges.NOT);
        edges.due("another", x.sit(0, 5), Edges.NOT);
        edges.due("the last at the first", x.sit(5, 0), 5);
        edges.due("now it is free", x.sit(0, 5), Edges.NONE);
        edges.due("player -1", x.sit(-1, 1), Edges.UNKNOWN);
        edges.due("player 6", x.sit(6, 1), Edges.UNKNOWN);
        edges.due("tower -1", x.sit(1, -1), Edges.UNKNOWN);
        edges.due("tower 6", x.sit(1, 6), Edges.UNKNOWN);
        edges.due("player 6, where somebody sits", x.sit(6, 0), Edges.UNKNOWN);
        edges.due("three can be undone", x.told(18), 3);
        edges.due("no coast", new GurdyTide().sit(0, 0), Edges.UNKNOWN);
        edges.due("no towers", Check.on("c0,0;p1;").sit(0, 0), Edges.UNKNOWN);
        edges.due("no players", Check.on("c0,0;t0 1;").sit(0, 0), Edges.UNKNOWN);
    }

    private void rest() {
        edges.of("Promise 12", "RESTS: the TOWER where he was. UNKNOWN, NOT: he rests.");
        GurdyTide x = Check.on("c0,0;t0 1;t0 1;t0 1;t0 1;t0 1;t0 1;p1;p1;p1;p1;p1;p1;");
        edges.due("he rests at first", x.rest(5), Edges.NOT);
        x.sit(5, 0);
        edges.due("from tower 0", x.rest(5), 0);
        edges.due("he rests", x.rest(5), Edges.NOT);
        x.sit(0, 5);
        x.sleep(0, true);
        edges.due("from tower 5, asleep", x.rest(0), 5);
        edges.due("he sleeps still", x.player(0, 3), 1);
        edges.due("player -1", x.rest(-1), Edges.UNKNOWN);
        edges.due("player 6", x.rest(6), Edges.UNKNOWN);
        edges.due("no coast", new GurdyTide().rest(0), Edges.UNKNOWN);
    }

    private void sleep() {
        edges.of("Promise 13", "SLEEPS (is), or WAKES: 1 he slept, 0 not. UNKNOWN.");
        GurdyTide x = Check.on("c0,0;p1;p1;p1;p1;p1;p1;");
        for (int p = 0; p < 6; p += 5) {
            edges.due("wakes, awake", x.sleep(p, false), 0);
            edges.due("sleeps, awake", x.sleep(p, true), 0);
            edges.due("sleeps, asleep", x.sleep(p, true), 1);
            edges.due("he alone", x.told(12), 1 << p);
            edges.due("wakes, asleep", x.sleep(p, false), 1);
            edges.due("nobody", x.told(12), 0);
        }
        edges.due("all can be undone, those too that changed nothing", x.told(18), 8);
        for (int p : new int[] {-1, 6, Integer.MIN_VALUE, Integer.MAX_VALUE}) {
            edges.due("player " + p, x.sleep(p, true), Edges.UNKNOWN);
            edges.due("player " + p, x.sleep(p, false), Edges.UNKNOWN);
        }
        edges.due("nobody sleeps", x.told(12), 0);
    }

    private void turn() {
        edges.of("Promise 14", "TURNED (0 .. 99): what it was WOUND to. UNKNOWN, OUTSIDE.");
        GurdyTide x = Check.on("c0,0;t0 1;t0 1;t0 1;t0 1;t0 1;t0 1;");
        edges.bounds("n", 0, 99, n -> x.turn(5, n));
        edges.known("t", 6, t -> x.turn(t, 1));
        edges.due("from 1 to 99", x.turn(5, 99), 1);
        edges.due("from 99 to 0", x.turn(5, 0), 99);
        edges.due("from 0 to 0", x.turn(5, 0), 0);
        edges.due("unknown and outside", x.turn(6, 100), Edges.UNKNOWN);
        edges.due("no coast", new GurdyTide().turn(0, 0), Edges.UNKNOWN);
    }

    private void send() {
        edges.of("Promise 15", "SENT: where it was. UNKNOWN.");
        GurdyTide x = Check.on("c0,0,0,0,0,0,0,0,0,0;t0 1;b1 0 9;b1 9 0;b1 0 0;b1 8 9;");
        edges.known("b", 4, x::send);
        x.turn(0, 99);
        x.hour(9);
        edges.due("it was at the last cell", x.send(0), 9);
        edges.due("it was at the first cell", x.send(1), 0);
        edges.due("X is Y", x.send(2), 0);
        edges.due("at X", x.boat(0, 1), 0);
        edges.due("at X", x.boat(1, 1), 9);
        edges.due("all can be undone, those too that changed nothing", x.told(18), 9);
        edges.due("no coast", new GurdyTide().send(0), Edges.UNKNOWN);
    }

    private void drift() {
        edges.of("Promise 16", "n HOURS (1 .. 60) BY DRAWS: HOURS. OUTSIDE, NOT: no COAST; FULL: HOURS are above 9000.");
        GurdyTide x = Check.on("c0,0;p1;");
        edges.bounds("n", 1, 60, x::drift);
        edges.due("61 are counted", x.told(5), 61);
        edges.due("two can be undone", x.told(18), 2);
        edges.due("no coast", new GurdyTide().drift(1), Edges.NOT);
        edges.due("no coast", new GurdyTide().drift(60), Edges.NOT);
        edges.due("no coast, outside", new GurdyTide().drift(0), Edges.OUTSIDE);
        GurdyTide late = Check.on("c0,0;p1;");
        for (int i = 1; i <= 150; i++) {
            late.drift(60);
        }
        edges.due("9000", late.told(5), 9000);
        edges.due("9000 is not above 9000", late.drift(1), 9001);
        int seed = late.seed(5);
        late.seed(seed);
        edges.due("9001 is", late.drift(1), Edges.FULL);
        edges.due("outside comes first", late.drift(61), Edges.OUTSIDE);
        edges.due("no draw", late.seed(seed), seed);
        late.undo();
        edges.due("9000 again, and 60 more", late.drift(60), 9060);
        edges.due("9060 is above 9000", late.drift(60), Edges.FULL);
    }

    private void undo() {
        edges.of("Promise 17", "The latest is undone: how many more can be. NOT: none.");
        GurdyTide x = new GurdyTide();
        edges.due("a new object", x.undo(), Edges.NOT);
        Check.feed(x, "c0,0;t0 1;");
        x.coast();
        edges.due("a new coast", x.undo(), Edges.NOT);
        x.turn(0, 5);
        x.turn(0, 6);
        edges.due("one more", x.undo(), 1);
        edges.due("as ahead of it", x.tower(0, 2), 5);
        edges.due("no more", x.undo(), 0);
        edges.due("as ahead of it", x.tower(0, 2), 0);
        edges.due("none", x.undo(), Edges.NOT);
        edges.due("as it was", x.tower(0, 2), 0);
        for (int i = 1; i <= 20; i++) {
            x.turn(0, i);
        }
        edges.due("15 more at most", x.undo(), 15);
    }
}
