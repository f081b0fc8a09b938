/** Promises 18 to 33: the edges that each call's own words name. */
final class EdgeAsked {
    private final Edges edges;

    EdgeAsked(Edges edges) {
        this.edges = edges;
    }

    void run() {
        sea();
        deepest();
        comes();
        seats();
        leave();
        share();
        calm();
        mark();
        look();
        see();
        write();
        tear();
        judge();
        seed();
        keep();
        goBack();
    }

    private void sea() {
        edges.of("Promise 18", "what = 0 SEA, 1 DEPTH behind n HOURS. UNKNOWN, OUTSIDE.");
        GurdyTide x = Check.on("c0,0,0,0,0,0,0,0,0,9;t9 20;");
        edges.known("c", 10, c -> x.sea(c, 0, 0));
        edges.bounds("n", 0, 100, n -> x.sea(9, n, 0));
        edges.bounds("what", 0, 1, what -> x.sea(9, 0, what));
        x.turn(0, 99);
        edges.due("sea behind 0", x.sea(9, 0, 0), 99);
        edges.due("depth behind 0", x.sea(9, 0, 1), 90);
        edges.due("sea behind 32", x.sea(9, 32, 0), 3);
        edges.due("depth behind 29", x.sea(9, 29, 1), 3);
        edges.due("depth behind 30", x.sea(9, 30, 1), 0);
        edges.due("sea behind 100", x.sea(9, 100, 0), 0);
        edges.due("unknown and outside", x.sea(10, 101, 2), Edges.UNKNOWN);
        edges.due("no coast", new GurdyTide().sea(0, 0, 0), Edges.UNKNOWN);
    }

    private void deepest() {
        edges.of("Promise 19", "DEEPEST: what = 0 behind how many, 1 how much. UNKNOWN, OUTSIDE.");
        GurdyTide x = Check.on("c0,0,0,0,0,0,0,0,0,9;t9 20;p2;");
        edges.known("c", 10, c -> x.deepest(c, 0, 0));
        edges.bounds("n", 0, 100, n -> x.deepest(9, n, 0));
        edges.bounds("what", 0, 1, what -> x.deepest(9, 0, what));
        x.sit(0, 0);
        // 2 each of five hours, then 1 each of five: 15
        edges.due("behind 10", x.deepest(9, 100, 0), 10);
        edges.due("6 deep", x.deepest(9, 100, 1), 6);
        edges.due("behind 9 of 9", x.deepest(9, 9, 0), 9);
        edges.due("5 deep of 9", x.deepest(9, 9, 1), 5);
        edges.due("unknown and outside", x.deepest(-1, -1, -1), Edges.UNKNOWN);
        edges.due("no coast", new GurdyTide().deepest(0, 0, 0), Edges.UNKNOWN);
    }

    private void comes() {
        edges.of("Promise 20", "COMES; NONE. UNKNOWN.");
        GurdyTide x = Check.on("c0,0,0,0,0,0,0,0,0,0;t0 1;b1 0 9;b1 9 0;b1 4 4;b30 0 9;");
        edges.known("b", 4, x::comes);
        edges.due("dry", x.comes(0), Edges.NONE);
        edges.due("dry, at Y", x.comes(2), 0);
        x.turn(0, 99);
        edges.due("nine cells", x.comes(0), 9);
        edges.due("nine cells back", x.comes(1), 9);
        edges.due("deep enough all the way", x.comes(3), 9);
        edges.due("no coast", new GurdyTide().comes(0), Edges.UNKNOWN);
    }

    private void seats() {
        edges.of("Promise 21", "SEATS: p = NONE how many, else the TOWER of a PLAYER; NONE. UNKNOWN, OUTSIDE.");
        GurdyTide x = Check.on("c0,0,0,0,0,0,0,0,0,0;t9 1;t9 1;t9 1;t9 1;t9 1;t9 1;p9;p8;p7;p6;p5;p1;");
        edges.known("c", 10, c -> x.seats(c, 0, 1, Edges.NONE));
        edges.knownOrNone("p", 6, p -> x.seats(9, 1, 1, p));
        edges.bounds("d", 0, 99, d -> x.seats(9, d, 1, 0));
        edges.bounds("n", 1, 20, n -> x.seats(9, 0, n, 0));
        edges.due("how many for 36", x.seats(9, 36, 1, Edges.NONE), 6);
        edges.due("tower of the last for 36", x.seats(9, 36, 1, 5), 5);
        edges.due("how many for 35", x.seats(9, 35, 1, Edges.NONE), 5);
        edges.due("tower of the last for 35: rests", x.seats(9, 35, 1, 5), Edges.NONE);
        edges.due("by no plan", x.seats(9, 37, 1, Edges.NONE), Edges.NONE);
        edges.due("by no plan, of a player", x.seats(9, 37, 1, 0), Edges.NONE);
        edges.due("unknown and outside", x.seats(10, 100, 0, 0), Edges.UNKNOWN);
        edges.due("unknown player and outside", x.seats(9, 100, 0, 6), Edges.UNKNOWN);
        edges.due("no coast", new GurdyTide().seats(0, 0, 1, Edges.NONE), Edges.UNKNOWN);
    }

    private void leave() {
        edges.of("Promise 22", "LEAVE: what = 0 the TOWER, 1 how much; NONE: no TOWERS. OUTSIDE.");
        GurdyTide x = Check.on("c0,0;t0 1;t0 1;t0 1;t0 1;t0 1;t0 9;");
        edges.bounds("what", 0, 1, x::leave);
        x.turn(5, 99);
        edges.due("the last", x.leave(0), 5);
        edges.due("how much", x.leave(1), 0);
        GurdyTide none = Check.on("c0,0;p1;");
        edges.due("no towers: which", none.leave(0), Edges.NONE);
        edges.due("no towers: how much", none.leave(1), Edges.NONE);
        edges.due("no towers, outside", none.leave(2), Edges.OUTSIDE);
        edges.due("no coast: which", new GurdyTide().leave(0), Edges.NONE);
        edges.due("no coast: how much", new GurdyTide().leave(1), Edges.NONE);
        edges.due("no coast, outside", new GurdyTide().leave(-1), Edges.OUTSIDE);
    }

    private void share() {
        edges.of("Promise 23", "SHARES: c = NONE what is left over. UNKNOWN, OUTSIDE.");
        GurdyTide x = Check.on("c60,60,60,60,60,60,60,60,60,60;");
        edges.knownOrNone("c", 10, c -> x.share(9, c));
        edges.bounds("x", 0, 999, v -> x.share(v, 9));
        edges.due("of the last", x.share(999, 9), 99);
        edges.due("left over", x.share(999, Edges.NONE), 9);
        edges.due("unknown and outside", x.share(1000, 10), Edges.UNKNOWN);
        edges.due("unknown and outside", x.share(-1, -2), Edges.UNKNOWN);
        edges.due("no coast", new GurdyTide().share(0, 0), Edges.UNKNOWN);
        edges.due("no coast, left over", new GurdyTide().share(7, Edges.NONE), 7);
        edges.due("no coast, outside", new GurdyTide().share(1000, Edges.NONE), Edges.OUTSIDE);
    }

    private void calm() {
        edges.of("Promise 24", "CALM. OUTSIDE.");
        GurdyTide x = new GurdyTide();
        edges.bounds("n", 0, 60, n -> x.calm(n, 100));
        edges.bounds("q", 0, 100, q -> x.calm(60, q));
        edges.due("both outside", x.calm(61, 101), Edges.OUTSIDE);
        edges.due("1 day of 100", x.calm(1, 100), 1000000000);
        edges.due("1 day of 99", x.calm(1, 99), 990000000);
        edges.due("1 day of 1", x.calm(1, 1), 10000000);
    }

    private void mark() {
        edges.of("Promise 25", "A MARK: how many there are. UNKNOWN, OUTSIDE, FULL (6).");
        GurdyTide x = Check.on("c0,0,0,0,0,0,0,0,0,0;t0 1;p1;");
        edges.due("cell 10", x.mark(10, 1, 0), Edges.UNKNOWN);
        edges.due("cell -1", x.mark(-1, 1, 0), Edges.UNKNOWN);
        edges.due("n 0", x.mark(9, 0, 0), Edges.OUTSIDE);
        edges.due("n 21", x.mark(9, 21, 0), Edges.OUTSIDE);
        edges.due("v -1", x.mark(9, 1, -1), Edges.OUTSIDE);
        edges.due("v 1000", x.mark(9, 1, 1000), Edges.OUTSIDE);
        edges.due("none yet", x.told(13), 0);
        int[][] marks = {{9, 1, 0}, {9, 20, 0}, {0, 1, 999}, {0, 20, 999}, {0, 1, 0}, {9, 1, 0}};
        for (int i = 0; i < 6; i++) {
            edges.due("mark", x.mark(marks[i][0], marks[i][1], marks[i][2]), i + 1);
        }
        edges.due("a seventh", x.mark(0, 1, 0), Edges.FULL);
        edges.due("a seventh, outside", x.mark(0, 21, 0), Edges.OUTSIDE);
        edges.due("a seventh, unknown and outside", x.mark(10, 21, 0), Edges.UNKNOWN);
        edges.due("torn", x.tear(), 6);
        edges.due("the first again", x.mark(0, 1, 0), 1);
        edges.due("no coast", new GurdyTide().mark(0, 1, 0), Edges.UNKNOWN);
    }

    private void look() {
        edges.of("Promise 26", "LOOK; NONE.");
        GurdyTide x = Check.on("c0,0;t0 20;t1 20;p1;p1;");
        edges.due("no coast", new GurdyTide().look(), Edges.NONE);
        edges.due("nobody sits", x.look(), Edges.NONE);
        x.sit(0, 0);
        edges.due("one sits", x.look(), Edges.NONE);
        x.sit(1, 1);
        edges.due("cell 0 behind 1", x.look(), 1);
        x.mark(1, 20, 5);
        edges.due("one is left", x.look(), Edges.NONE);
        GurdyTide dry = Check.on("c0,0;p1;p1;");
        edges.due("no towers", dry.look(), Edges.NONE);
    }

    private void see() {
        edges.of("Promise 27", "SEEN: how much. OUTSIDE, FULL (6).");
        GurdyTide x = new GurdyTide();
        int[][] outside = {{-1, 0, 0}, {100, 0, 0}, {0, -1, 0}, {0, 10, 0}, {0, 0, -1}, {0, 0, 100}};
        for (int[] s : outside) {
            edges.due("see " + s[0] + " " + s[1] + " " + s[2], x.see(s[0], s[1], s[2]), Edges.OUTSIDE);
        }
        edges.due("nothing yet", x.told(15), 0);
        int[][] seen = {{0, 0, 0}, {99, 0, 99}, {99, 9, 90}, {0, 9, 0}, {99, 9, 90}, {1, 1, 0}};
        for (int i = 0; i < 6; i++) {
            edges.due("see", x.see(seen[i][0], seen[i][1], seen[i][2]), i + 1);
        }
        edges.due("a seventh", x.see(0, 0, 0), Edges.FULL);
        edges.due("a seventh, outside", x.see(0, 0, 100), Edges.OUTSIDE);
        edges.due("guts", x.told(16), 2);
        edges.due("torn", x.tear(), 6);
        edges.due("the first again", x.see(0, 0, 0), 1);
    }

    private void write() {
        edges.of("Promise 28", "An entry behind THE BOOK (0 .. 999): how many. UNKNOWN, OUTSIDE, FULL (15).");
        GurdyTide x = Check.on("c0,0,0,0,0,0,0,0,0,0;t9 1;");
        edges.known("c", 10, c -> x.write(c, 0));
        edges.bounds("sea", 0, 999, v -> x.write(9, v));
        edges.due("twelve were taken", x.told(17), 12);
        edges.due("that of 999 is wrong", x.judge(), 11);
        edges.due("the 13th", x.write(9, 0), 13);
        edges.due("the 14th", x.write(9, 0), 14);
        edges.due("the 15th", x.write(9, 0), 15);
        edges.due("a 16th", x.write(9, 0), Edges.FULL);
        edges.due("a 16th, outside", x.write(9, 1000), Edges.OUTSIDE);
        edges.due("a 16th, unknown", x.write(10, 0), Edges.UNKNOWN);
        edges.due("a 16th, unknown and outside", x.write(-1, -1), Edges.UNKNOWN);
        edges.due("torn", x.tear(), 15);
        edges.due("the first again", x.write(0, 0), 1);
        edges.due("no coast", new GurdyTide().write(0, 0), Edges.UNKNOWN);
    }

    private void tear() {
        edges.of("Promise 29", "No MARKS, nothing SEEN, THE BOOK is empty: how much all had.");
        GurdyTide x = Check.on("c0,0;t0 1;p1;");
        edges.due("none", x.tear(), 0);
        x.mark(0, 1, 0);
        edges.due("a mark", x.tear(), 1);
        x.see(0, 0, 0);
        edges.due("what is seen", x.tear(), 1);
        x.write(0, 0);
        edges.due("an entry", x.tear(), 1);
        for (int i = 0; i < 16; i++) {
            x.mark(0, 1, 9);
            x.see(9, 9, 9);
            x.write(0, 9);
        }
        edges.due("all are full", x.tear(), 6 + 6 + 15);
        edges.due("no marks", x.told(13), 0);
        edges.due("nothing seen", x.told(15), 0);
        edges.due("guts", x.told(16), 2097150);
        edges.due("an empty book", x.told(17), 0);
        edges.due("nothing is wrong", x.judge(), Edges.NONE);
        edges.due("none again", x.tear(), 0);
        edges.due("no coast", new GurdyTide().tear(), 0);
    }

    private void judge() {
        edges.of("Promise 30", "WRONG; NONE.");
        GurdyTide x = Check.on("c0,0;t0 1;t0 1;t0 1;t0 1;t0 1;t0 1;");
        edges.due("an empty book", x.judge(), Edges.NONE);
        for (int i = 0; i < 6; i++) {
            x.turn(i, 99);
        }
        x.write(0, 594);
        edges.due("the highest sea that there is", x.judge(), Edges.NONE);
        x.write(1, 588);
        edges.due("both are so", x.judge(), Edges.NONE);
        x.write(1, 589);
        edges.due("the last is wrong", x.judge(), 2);
        x.hour(1);
        edges.due("the first is wrong", x.judge(), 0);
        edges.due("no coast", new GurdyTide().judge(), Edges.NONE);
    }

    private void seed() {
        edges.of("Promise 31", "THE SEED becomes v (0 .. 2147483647): what it was. OUTSIDE.");
        GurdyTide x = new GurdyTide();
        edges.due("0 at first", x.seed(2147483647), 0);
        edges.due("-1", x.seed(-1), Edges.OUTSIDE);
        edges.due("-2147483648", x.seed(-2147483648), Edges.OUTSIDE);
        edges.due("the greatest", x.seed(0), 2147483647);
        edges.due("the least", x.seed(1), 0);
        edges.due("1", x.seed(1), 1);
    }

    private void keep() {
        edges.of("Promise 32", "IMAGE i becomes what is so (nothing can be undone then): 1. UNKNOWN.");
        GurdyTide x = Check.on("c0,0;t0 1;");
        for (int i : new int[] {-1, 2, Integer.MIN_VALUE, Integer.MAX_VALUE}) {
            edges.due("image " + i, x.keep(i), Edges.UNKNOWN);
        }
        for (int i = 0; i <= 1; i++) {
            x.turn(0, 7 + i);
            edges.due("one can be undone", x.told(18), 1);
            edges.due("image " + i, x.keep(i), 1);
            edges.due("nothing can be undone", x.told(18), 0);
            edges.due("nothing can be undone", x.undo(), Edges.NOT);
            edges.due("as it was", x.tower(0, 2), 7 + i);
        }
        x.turn(0, 50);
        x.keep(0);
        x.turn(0, 51);
        x.goBack(0);
        edges.due("the latest is kept", x.tower(0, 2), 50);
        x.goBack(1);
        edges.due("the other is as it was", x.tower(0, 2), 8);
    }

    private void goBack() {
        edges.of("Promise 33", "What is so becomes IMAGE i (nothing can be undone then): 1. UNKNOWN, NOT: it was not kept.");
        GurdyTide x = Check.on("c0,0;t0 1;");
        for (int i : new int[] {-1, 2, Integer.MIN_VALUE, Integer.MAX_VALUE}) {
            edges.due("image " + i, x.goBack(i), Edges.UNKNOWN);
        }
        edges.due("0 was not kept", x.goBack(0), Edges.NOT);
        edges.due("1 was not kept", x.goBack(1), Edges.NOT);
        x.turn(0, 9);
        x.keep(1);
        edges.due("0 was not kept", x.goBack(0), Edges.NOT);
        x.turn(0, 10);
        x.hour(60);
        edges.due("two can be undone", x.told(18), 2);
        edges.due("back", x.goBack(1), 1);
        edges.due("nothing can be undone", x.told(18), 0);
        edges.due("nothing can be undone", x.undo(), Edges.NOT);
        edges.due("wound", x.tower(0, 2), 9);
        edges.due("hours", x.told(5), 0);
        edges.due("back again", x.goBack(1), 1);
        x.turn(0, 11);
        edges.due("what is done from there can be undone", x.undo(), 0);
        edges.due("wound", x.tower(0, 2), 9);
        x.coast();
        edges.due("gone with the coast", x.goBack(1), Edges.NOT);
    }
}
