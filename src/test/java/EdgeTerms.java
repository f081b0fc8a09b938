import java.util.function.IntUnaryOperator;
import java.util.function.ToIntFunction;

/** "What it is" and "Terms": numbers, sets, the order of refusals, and that what is refused changes nothing. */
final class EdgeTerms {
    private final Edges edges;

    EdgeTerms(Edges edges) {
        this.edges = edges;
    }

    void run() {
        fiveHundredAndTwelveCalls();
        wholeNumbersAreCut();
        numbersFromNought();
        sets();
        constants();
        unknownCellsAndTowers();
        unknownPlayersBoatsImages();
        outside();
        unknownAheadOfOutside();
        unknownAheadOfNotAndFull();
        outsideAheadOfNotAndFull();
        refusedOfTheCoast();
        refusedOfWhatIsDone();
        refusedOfWhatIsTried();
        refusedOfWhatIsSeen();
        refusedOfImages();
        refusedWithoutCoast();
        refusedWhenFull();
        refusedWhenLate();
    }

    private void fiveHundredAndTwelveCalls() {
        edges.of("What it is", "An object is used for at most 512 calls after it has been made");
        GurdyTide x = new GurdyTide();
        String text = "c0,0;t0 1;";
        Check.feed(x, text);
        x.coast();
        int was = 0;
        for (int call = text.length() + 2; call <= 512; call++) {
            edges.due("call " + call, x.turn(0, call % 100), was);
            was = call % 100;
        }
        GurdyTide y = new GurdyTide();
        for (int call = 1; call <= 512; call++) {
            edges.due("feed as call " + call, y.feed(' '), call <= 240 ? call : Edges.FULL);
        }
        GurdyTide z = Check.on("c0,0;t0 1;t0 1;t0 1;t0 1;t0 1;t0 1;p1;p1;p1;p1;p1;p1;");
        for (int call = 55; call <= 512; call++) {
            edges.due("seats as call " + call, z.seats(0, 6, 1, 5), 5);
        }
    }

    private void wholeNumbersAreCut() {
        edges.of("Terms", "/ cuts towards 0");
        GurdyTide x = Check.on("c7,7,7;t0 20;p3;");
        x.sit(0, 0);
        x.hour(5);
        edges.due("tired by 0 .. 4 is 0 less", x.tower(0, 2), 15);
        x.hour(1);
        edges.due("tired by 5 is 1 less", x.tower(0, 2), 17);
        x.hour(4);
        edges.due("tired by 9 is 1 less", x.tower(0, 2), 25);
        x.turn(0, 0);
        edges.due("2 of 3 dry cells alike", x.share(2, 0), 0);
        edges.due("5 of 3 dry cells alike", x.share(5, 0), 1);
        edges.due("3913539 * 33 / 100 is 1291467.87", x.calm(6, 33), 1291467);
    }

    private void numbersFromNought() {
        edges.of("Terms", "What has a number has it from 0 on, as it comes.");
        GurdyTide x = Check.on("c9,8,7,6,5,4,3,2,1,0;p4;b3 1 2;t5 6;p5;b4 2 3;t6 7;p6;b5 3 4;t7 8;p7;b6 4 5;"
                + "t8 9;p8;t9 10;p9;t0 11;");
        for (int c = 0; c < 10; c++) {
            edges.due("ground of " + c, x.cell(c, 0), 9 - c);
        }
        for (int i = 0; i < 6; i++) {
            edges.due("cell of tower " + i, x.tower(i, 0), (5 + i) % 10);
            edges.due("fall of tower " + i, x.tower(i, 1), 6 + i);
            edges.due("arm of player " + i, x.player(i, 0), 4 + i);
        }
        for (int b = 0; b < 4; b++) {
            edges.due("draught of boat " + b, x.boat(b, 0), 3 + b);
            edges.due("X of boat " + b, x.boat(b, 2), 1 + b);
            edges.due("Y of boat " + b, x.boat(b, 3), 2 + b);
        }
        x.write(0, 1);
        edges.due("the first entry is 0", x.judge(), 0);
    }

    private void sets() {
        edges.of("Terms", "A SET is a whole number, bit k for k.");
        GurdyTide x = Check.on("c0,0,0,0,0,0,0,0,0,0;t9 1;t0 1;t0 1;t0 1;t0 1;t0 1;p1;p1;p1;p1;p1;p1;"
                + "b1 9 0;b1 9 0;b1 9 0;b1 0 0;");
        edges.due("no cell is wet", x.told(8), 0);
        x.turn(0, 1);
        edges.due("the last cell alone is wet", x.told(8), 1 << 9);
        edges.due("the last boat alone is aground", x.told(9), 1 << 3);
        edges.due("the last boat alone is at Y", x.told(10), 1 << 3);
        x.turn(1, 1);
        edges.due("the first and the last cell", x.told(8), 1 + (1 << 9));
        x.turn(0, 99);
        edges.due("all cells", x.told(8), 1023);
        x.sit(5, 1);
        x.sleep(5, true);
        edges.due("the last player alone sits", x.told(11), 1 << 5);
        edges.due("the last player alone sleeps", x.told(12), 1 << 5);
        edges.due("the last player alone slept", x.told(14), 1 << 5);
        edges.due("G 1 to 20", x.told(16), (1 << 21) - 2);
    }

    private void constants() {
        edges.of("Terms", "NONE is -1.");
        edges.due("NONE", GurdyTide.NONE, -1);
        edges.of("Terms", "They are far below all that is counted: -1000000001 and on.");
        edges.due("UNKNOWN", GurdyTide.UNKNOWN, -1000000001);
        edges.due("OUTSIDE", GurdyTide.OUTSIDE, -1000000002);
        edges.due("NOT", GurdyTide.NOT, -1000000003);
        edges.due("FULL", GurdyTide.FULL, -1000000004);
        edges.of("Terms", "BILLION is 1000000000.");
        edges.due("calm", new GurdyTide().calm(0, 0), 1000000000);
    }

    private void unknownCellsAndTowers() {
        edges.of("Terms", "UNKNOWN (a CELL, TOWER, PLAYER, BOAT, IMAGE that there is not; bits of such)");
        GurdyTide x = rich();
        edges.known("cell c", 2, c -> x.cell(c, 0));
        edges.known("sea c", 2, c -> x.sea(c, 0, 0));
        edges.known("deepest c", 2, c -> x.deepest(c, 0, 0));
        edges.known("seats c", 2, c -> x.seats(c, 0, 1, Edges.NONE));
        edges.knownOrNone("share c", 2, c -> x.share(0, c));
        edges.known("mark c", 2, c -> x.mark(c, 1, 0));
        edges.known("write c", 2, c -> x.write(c, 0));
        edges.known("tower t", 2, t -> x.tower(t, 0));
        edges.known("turn t", 2, t -> x.turn(t, 0));
        GurdyTide y = Check.on("c0,0;t0 1;t1 1;p1;");
        edges.known("sit t", 2, t -> y.sit(0, t));
        GurdyTide without = new GurdyTide();
        for (IntUnaryOperator call : new IntUnaryOperator[] {c -> without.cell(c, 0), c -> without.sea(c, 0, 0),
            c -> without.deepest(c, 0, 0), c -> without.seats(c, 0, 1, Edges.NONE), c -> without.mark(c, 1, 0),
            c -> without.write(c, 0), t -> without.tower(t, 0), t -> without.turn(t, 0), t -> without.sit(0, t)}) {
            edges.due("without a coast", call.applyAsInt(0), Edges.UNKNOWN);
        }
        edges.due("share without a coast", without.share(0, 0), Edges.UNKNOWN);
    }

    private void unknownPlayersBoatsImages() {
        edges.of("Terms", "UNKNOWN (a CELL, TOWER, PLAYER, BOAT, IMAGE that there is not; bits of such)");
        GurdyTide x = Check.on("c0,0;t0 1;t0 1;t0 1;p1;p1;p1;b1 0 1;b1 0 1;");
        edges.known("player p", 3, p -> x.player(p, 0));
        edges.known("sit p", 3, p -> x.sit(p, Math.floorMod(p, 3)));
        edges.known("rest p", 3, x::rest);
        edges.known("sleep p", 3, p -> x.sleep(p, true));
        edges.known("wake p", 3, p -> x.sleep(p, false));
        edges.knownOrNone("seats p", 3, p -> x.seats(0, 0, 1, p));
        edges.known("boat b", 2, b -> x.boat(b, 0));
        edges.known("send b", 2, x::send);
        edges.known("comes b", 2, x::comes);
        edges.known("keep i", 2, x::keep);
        edges.known("goBack i", 2, x::goBack);
        GurdyTide without = new GurdyTide();
        for (IntUnaryOperator call : new IntUnaryOperator[] {p -> without.player(p, 0), without::rest,
            p -> without.sleep(p, true), b -> without.boat(b, 0), without::send, without::comes}) {
            edges.due("without a coast", call.applyAsInt(0), Edges.UNKNOWN);
        }
    }

    private void outside() {
        edges.of("Terms", "OUTSIDE (another number out of its bounds)");
        GurdyTide x = rich();
        edges.bounds("told", 0, 18, x::told);
        edges.bounds("cell what", 0, 3, what -> x.cell(0, what));
        edges.bounds("tower what", 0, 3, what -> x.tower(0, what));
        edges.bounds("player what", 0, 3, what -> x.player(0, what));
        edges.bounds("boat what", 0, 3, what -> x.boat(0, what));
        edges.bounds("sea what", 0, 1, what -> x.sea(0, 0, what));
        edges.bounds("deepest what", 0, 1, what -> x.deepest(0, 0, what));
        edges.bounds("leave what", 0, 1, x::leave);
        GurdyTide y = Check.on("c0,0;");
        edges.due("leave 2, no towers", y.leave(2), Edges.OUTSIDE);
        edges.due("leave -1, no towers", y.leave(-1), Edges.OUTSIDE);
    }

    private void unknownAheadOfOutside() {
        edges.of("Terms", "REFUSALS, of several the first in this order: UNKNOWN");
        GurdyTide x = rich();
        int no = Edges.UNKNOWN;
        edges.due("cell", x.cell(2, 4), no);
        edges.due("tower", x.tower(2, 4), no);
        edges.due("player", x.player(3, 4), no);
        edges.due("boat", x.boat(1, 4), no);
        edges.due("turn", x.turn(2, 100), no);
        edges.due("sea, n", x.sea(2, 101, 0), no);
        edges.due("sea, what", x.sea(2, 0, 2), no);
        edges.due("deepest, n", x.deepest(2, -1, 0), no);
        edges.due("deepest, what", x.deepest(2, 0, -1), no);
        edges.due("seats, d", x.seats(2, 100, 1, Edges.NONE), no);
        edges.due("seats, n", x.seats(2, 0, 0, Edges.NONE), no);
        edges.due("seats, p and d", x.seats(0, -1, 1, 3), no);
        edges.due("seats, p and n", x.seats(0, 0, 21, -2), no);
        edges.due("share", x.share(1000, 2), no);
        edges.due("share", x.share(-1, -2), no);
        edges.due("mark, n", x.mark(2, 21, 0), no);
        edges.due("mark, v", x.mark(-1, 1, 1000), no);
        edges.due("write", x.write(2, 1000), no);
        edges.due("cell without a coast", new GurdyTide().cell(0, 4), no);
        edges.due("sea without a coast", new GurdyTide().sea(0, 101, 2), no);
    }

    private void unknownAheadOfNotAndFull() {
        edges.of("Terms", "REFUSALS, of several the first in this order: UNKNOWN");
        GurdyTide x = full();
        edges.due("sit where somebody sits", x.sit(3, 1), Edges.UNKNOWN);
        edges.due("sit where he sits", x.sit(0, 2), Edges.UNKNOWN);
        edges.due("rest", x.rest(3), Edges.UNKNOWN);
        edges.due("goBack", x.goBack(2), Edges.UNKNOWN);
        edges.due("mark when full", x.mark(2, 1, 0), Edges.UNKNOWN);
        edges.due("mark when full, outside", x.mark(2, 0, 0), Edges.UNKNOWN);
        edges.due("write when full", x.write(2, 0), Edges.UNKNOWN);
        edges.due("write when full, outside", x.write(2, -1), Edges.UNKNOWN);
    }

    private void outsideAheadOfNotAndFull() {
        edges.of("Terms", "OUTSIDE (another number out of its bounds), NOT (not now, as told), FULL.");
        GurdyTide x = full();
        edges.due("mark when full, n", x.mark(0, 0, 0), Edges.OUTSIDE);
        edges.due("mark when full, v", x.mark(0, 1, 1000), Edges.OUTSIDE);
        edges.due("see when full, w", x.see(100, 0, 0), Edges.OUTSIDE);
        edges.due("see when full, k", x.see(0, 10, 0), Edges.OUTSIDE);
        edges.due("see when full, v", x.see(0, 0, 100), Edges.OUTSIDE);
        edges.due("write when full", x.write(0, 1000), Edges.OUTSIDE);
        edges.due("feed when full", fullText().feed(256), Edges.OUTSIDE);
        edges.due("hour without a coast", new GurdyTide().hour(0), Edges.OUTSIDE);
        edges.due("drift without a coast", new GurdyTide().drift(61), Edges.OUTSIDE);
        GurdyTide late = late();
        edges.due("hour above 9000", late.hour(61), Edges.OUTSIDE);
        edges.due("drift above 9000", late.drift(0), Edges.OUTSIDE);
    }

    // ---- what is refused changes nothing

    /** Two cells, two towers, three players of whom the last rests, a boat; image 0, four things to undo, a text. */
    static GurdyTide rich() {
        GurdyTide x = Check.on("c5,0;t0 4;t1 2;p6;p9;p1;b2 1 0;");
        x.seed(77);
        x.sit(0, 1);
        x.keep(0);
        x.hour(3);
        x.sit(1, 0);
        x.sleep(1, true);
        x.turn(0, 20);
        x.mark(0, 2, 42);
        x.see(20, 2, 14);
        x.write(0, 36);
        x.write(1, 3);
        Check.feed(x, "c9");
        return x;
    }

    /** As rich, but there are as many marks and so on as there may be. */
    private static GurdyTide full() {
        GurdyTide x = rich();
        for (int i = 1; i < 6; i++) {
            x.mark(1, 1, 5);
            x.see(9, 0, 9);
        }
        for (int i = 2; i < 15; i++) {
            x.write(0, 3);
        }
        return x;
    }

    /** THE TEXT has 240 letters. */
    private static GurdyTide fullText() {
        GurdyTide x = Check.on("c0,0;t0 1;");
        Check.feed(x, "c0,0,0;" + " ".repeat(233));
        return x;
    }

    /** HOURS are 9001, and two things can be undone. */
    private static GurdyTide late() {
        GurdyTide x = Check.on("c5,0;t0 4;p6;b2 1 0;");
        for (int i = 0; i < 150; i++) {
            x.hour(60);
        }
        x.keep(0);
        x.hour(1);
        x.sit(0, 0);
        return x;
    }

    private void nothing(String call, ToIntFunction<GurdyTide> made, int refusal) {
        edges.refused(call, rich(), rich(), made, refusal);
    }

    private void refusedOfTheCoast() {
        edges.of("Terms", "What is refused changes nothing.");
        nothing("feed(-1)", x -> x.feed(-1), Edges.OUTSIDE);
        nothing("feed(256)", x -> x.feed(256), Edges.OUTSIDE);
        nothing("told(19)", x -> x.told(19), Edges.OUTSIDE);
        nothing("cell(2, 0)", x -> x.cell(2, 0), Edges.UNKNOWN);
        nothing("cell(0, 4)", x -> x.cell(0, 4), Edges.OUTSIDE);
        nothing("tower(2, 0)", x -> x.tower(2, 0), Edges.UNKNOWN);
        nothing("tower(0, 4)", x -> x.tower(0, 4), Edges.OUTSIDE);
        nothing("player(3, 0)", x -> x.player(3, 0), Edges.UNKNOWN);
        nothing("player(0, 4)", x -> x.player(0, 4), Edges.OUTSIDE);
        nothing("boat(1, 0)", x -> x.boat(1, 0), Edges.UNKNOWN);
        nothing("boat(0, 4)", x -> x.boat(0, 4), Edges.OUTSIDE);
    }

    private void refusedOfWhatIsDone() {
        edges.of("Terms", "What is refused changes nothing.");
        nothing("hour(0)", x -> x.hour(0), Edges.OUTSIDE);
        nothing("hour(61)", x -> x.hour(61), Edges.OUTSIDE);
        nothing("sit(3, 0)", x -> x.sit(3, 0), Edges.UNKNOWN);
        nothing("sit(2, 2)", x -> x.sit(2, 2), Edges.UNKNOWN);
        nothing("sit(0, 1)", x -> x.sit(0, 1), Edges.NOT);
        nothing("sit(2, 0)", x -> x.sit(2, 0), Edges.NOT);
        nothing("rest(3)", x -> x.rest(3), Edges.UNKNOWN);
        nothing("rest(2)", x -> x.rest(2), Edges.NOT);
        nothing("sleep(3, true)", x -> x.sleep(3, true), Edges.UNKNOWN);
        nothing("sleep(-1, false)", x -> x.sleep(-1, false), Edges.UNKNOWN);
        nothing("turn(2, 1)", x -> x.turn(2, 1), Edges.UNKNOWN);
        nothing("turn(0, -1)", x -> x.turn(0, -1), Edges.OUTSIDE);
        nothing("turn(0, 100)", x -> x.turn(0, 100), Edges.OUTSIDE);
        nothing("send(1)", x -> x.send(1), Edges.UNKNOWN);
        nothing("drift(0)", x -> x.drift(0), Edges.OUTSIDE);
        nothing("drift(61)", x -> x.drift(61), Edges.OUTSIDE);
    }

    private void refusedOfWhatIsTried() {
        edges.of("Terms", "What is refused changes nothing.");
        nothing("sea(2, 1, 0)", x -> x.sea(2, 1, 0), Edges.UNKNOWN);
        nothing("sea(0, 101, 0)", x -> x.sea(0, 101, 0), Edges.OUTSIDE);
        nothing("sea(0, 1, 2)", x -> x.sea(0, 1, 2), Edges.OUTSIDE);
        nothing("deepest(2, 1, 0)", x -> x.deepest(2, 1, 0), Edges.UNKNOWN);
        nothing("deepest(0, 101, 0)", x -> x.deepest(0, 101, 0), Edges.OUTSIDE);
        nothing("deepest(0, 1, 2)", x -> x.deepest(0, 1, 2), Edges.OUTSIDE);
        nothing("comes(1)", x -> x.comes(1), Edges.UNKNOWN);
        nothing("seats(2, 1, 1, -1)", x -> x.seats(2, 1, 1, -1), Edges.UNKNOWN);
        nothing("seats(0, 1, 1, 3)", x -> x.seats(0, 1, 1, 3), Edges.UNKNOWN);
        nothing("seats(0, 100, 1, 0)", x -> x.seats(0, 100, 1, 0), Edges.OUTSIDE);
        nothing("seats(0, 1, 21, 0)", x -> x.seats(0, 1, 21, 0), Edges.OUTSIDE);
        nothing("leave(2)", x -> x.leave(2), Edges.OUTSIDE);
        nothing("share(1, 2)", x -> x.share(1, 2), Edges.UNKNOWN);
        nothing("share(1000, 0)", x -> x.share(1000, 0), Edges.OUTSIDE);
        nothing("calm(61, 1)", x -> x.calm(61, 1), Edges.OUTSIDE);
        nothing("calm(1, 101)", x -> x.calm(1, 101), Edges.OUTSIDE);
    }

    private void refusedOfWhatIsSeen() {
        edges.of("Terms", "What is refused changes nothing.");
        nothing("mark(2, 1, 1)", x -> x.mark(2, 1, 1), Edges.UNKNOWN);
        nothing("mark(0, 0, 1)", x -> x.mark(0, 0, 1), Edges.OUTSIDE);
        nothing("mark(0, 21, 1)", x -> x.mark(0, 21, 1), Edges.OUTSIDE);
        nothing("mark(0, 1, -1)", x -> x.mark(0, 1, -1), Edges.OUTSIDE);
        nothing("mark(0, 1, 1000)", x -> x.mark(0, 1, 1000), Edges.OUTSIDE);
        nothing("see(100, 0, 0)", x -> x.see(100, 0, 0), Edges.OUTSIDE);
        nothing("see(1, 10, 0)", x -> x.see(1, 10, 0), Edges.OUTSIDE);
        nothing("see(1, 0, 100)", x -> x.see(1, 0, 100), Edges.OUTSIDE);
        nothing("write(2, 1)", x -> x.write(2, 1), Edges.UNKNOWN);
        nothing("write(0, -1)", x -> x.write(0, -1), Edges.OUTSIDE);
        nothing("write(0, 1000)", x -> x.write(0, 1000), Edges.OUTSIDE);
    }

    private void refusedOfImages() {
        edges.of("Terms", "What is refused changes nothing.");
        nothing("seed(-1)", x -> x.seed(-1), Edges.OUTSIDE);
        nothing("keep(-1)", x -> x.keep(-1), Edges.UNKNOWN);
        nothing("keep(2)", x -> x.keep(2), Edges.UNKNOWN);
        nothing("goBack(-1)", x -> x.goBack(-1), Edges.UNKNOWN);
        nothing("goBack(2)", x -> x.goBack(2), Edges.UNKNOWN);
        nothing("goBack(1)", x -> x.goBack(1), Edges.NOT);
    }

    private static GurdyTide withoutCoast() {
        GurdyTide x = new GurdyTide();
        x.seed(5);
        x.see(20, 2, 14);
        x.keep(1);
        Check.feed(x, "c0,0;");
        return x;
    }

    private void refusedWithoutCoast() {
        edges.of("Terms", "What is refused changes nothing.");
        edges.refused("hour(1), no coast", withoutCoast(), withoutCoast(), x -> x.hour(1), Edges.NOT);
        edges.refused("drift(1), no coast", withoutCoast(), withoutCoast(), x -> x.drift(1), Edges.NOT);
        edges.refused("undo(), none", withoutCoast(), withoutCoast(), x -> x.undo(), Edges.NOT);
        edges.refused("goBack(0), not kept", withoutCoast(), withoutCoast(), x -> x.goBack(0), Edges.NOT);
        edges.refused("sit(0, 0), no coast", withoutCoast(), withoutCoast(), x -> x.sit(0, 0), Edges.UNKNOWN);
        edges.refused("mark(0, 1, 0), no coast", withoutCoast(), withoutCoast(), x -> x.mark(0, 1, 0), Edges.UNKNOWN);
    }

    private void refusedWhenFull() {
        edges.of("Terms", "What is refused changes nothing.");
        edges.refused("feed, full", fullText(), fullText(), x -> x.feed('x'), Edges.FULL);
        edges.refused("mark, full", full(), full(), x -> x.mark(0, 1, 999), Edges.FULL);
        edges.refused("see, full", full(), full(), x -> x.see(1, 0, 99), Edges.FULL);
        edges.refused("write, full", full(), full(), x -> x.write(0, 999), Edges.FULL);
    }

    private void refusedWhenLate() {
        edges.of("Terms", "What is refused changes nothing.");
        edges.refused("hour, above 9000", late(), late(), x -> x.hour(1), Edges.FULL);
        edges.refused("drift, above 9000", late(), late(), x -> x.drift(1), Edges.FULL);
    }
}
