/** Promises 18 to 24: what is tried; nothing changes by it. */
public final class TriedTest {
    private static final int NONE = GurdyTide.NONE;
    private static final int UNKNOWN = GurdyTide.UNKNOWN;
    private static final int OUTSIDE = GurdyTide.OUTSIDE;
    private static final Check check = new Check("TriedTest");

    public static void main(String[] args) {
        seas();
        deepest();
        comes();
        seatsPlain();
        seatsOrder();
        seatsOfMostArms();
        seatsOfTiredAndSleeping();
        seatsRefused();
        leaving();
        sharing();
        calm();
        nothingChanges();
        check.end();
    }

    private static void seas() {
        GurdyTide x = Check.on("c5,50;t0 4;t1 1;p9;p3;");
        x.sit(0, 0);
        x.turn(1, 20);
        check.due("now", x.sea(0, 0, 0), 19);
        check.due("depth now", x.sea(0, 0, 1), 14);
        check.due("behind 1", x.sea(0, 1, 0), 9 + 16);
        check.due("behind 1, at 1", x.sea(1, 1, 0), 5 + 17);
        check.due("depth is 0 at least", x.sea(1, 1, 1), 0);
        check.due("behind 7", x.sea(0, 7, 0), 5 * 9 + 2 * 8 + 0);
        check.due("behind 100", x.sea(0, 100, 0), 99);
        check.due("depth behind 100", x.sea(1, 100, 1), 45);
        x.sleep(0, true);
        check.due("he sleeps", x.sea(0, 7, 0), 0);
        check.due("cell 2", x.sea(2, -1, 0), UNKNOWN);
        check.due("cell -1", x.sea(-1, 0, 0), UNKNOWN);
        check.due("n -1", x.sea(0, -1, 0), OUTSIDE);
        check.due("n 101", x.sea(0, 101, 0), OUTSIDE);
        check.due("what -1", x.sea(0, 0, -1), OUTSIDE);
        check.due("what 2", x.sea(0, 0, 2), OUTSIDE);
        check.due("no coast", new GurdyTide().sea(0, 0, 0), UNKNOWN);
    }

    private static void deepest() {
        GurdyTide x = Check.on("c3,60;t0 4;t1 1;p2;");
        x.sit(0, 0);
        // the tower at 0 is wound to 2, 4, 6, 8, 10, 11, .. 15, and there it stays
        check.due("when", x.deepest(0, 100, 0), 10);
        check.due("how much", x.deepest(0, 100, 1), 12);
        check.due("when, of 7", x.deepest(0, 7, 0), 7);
        check.due("how much, of 7", x.deepest(0, 7, 1), 9);
        check.due("of 0", x.deepest(0, 0, 0), 0);
        check.due("how much of 0", x.deepest(0, 0, 1), 0);
        check.due("never wet", x.deepest(1, 100, 0), 0);
        x.turn(1, 90);
        // at 0: 89 - 3 each hour, and 2 each hour
        check.due("now is deepest", x.deepest(0, 100, 0), 0);
        check.due("how much now", x.deepest(0, 100, 1), 86);
        check.due("cell 2", x.deepest(2, 101, 0), UNKNOWN);
        check.due("cell -1", x.deepest(-1, 0, 0), UNKNOWN);
        check.due("n -1", x.deepest(0, -1, 0), OUTSIDE);
        check.due("n 101", x.deepest(0, 101, 0), OUTSIDE);
        check.due("what -1", x.deepest(0, 0, -1), OUTSIDE);
        check.due("what 2", x.deepest(0, 0, 2), OUTSIDE);
    }

    private static void comes() {
        GurdyTide x = Check.on("c0,0,0;t1 1;p1;b4 0 2;b4 2 2;b30 0 2;");
        check.due("nobody sits", x.comes(0), NONE);
        check.due("at Y", x.comes(1), 0);
        x.sit(0, 0);
        // wound to 5 behind 5 hours, and then no more: depth at 0 is 4
        check.due("comes", x.comes(0), 6);
        check.due("never", x.comes(2), NONE);
        x.hour(5);
        check.due("comes sooner", x.comes(0), 1);
        check.due("boat 3", x.comes(3), UNKNOWN);
        check.due("boat -1", x.comes(-1), UNKNOWN);
        // arms 1 that tire never more than this: 9 cells lie between, each hour one
        GurdyTide y = Check.on("c0,0,0,0,0,0,0,0,0,0;t0 1;b1 0 9;");
        y.turn(0, 99);
        check.due("9 hours", y.comes(0), 9);
    }

    private static void seatsPlain() {
        GurdyTide x = Check.on("c10,0;t0 4;t1 2;p3;p6;");
        plan(x, 0, 0, 1, 0, NONE, NONE);
        plan(x, 1, 1, 1, 1, 1, NONE);
        plan(x, 1, 3, 1, 1, 1, NONE);
        plan(x, 1, 4, 1, 1, NONE, 1);
        plan(x, 1, 6, 1, 1, NONE, 1);
        plan(x, 1, 7, 1, NONE, NONE, NONE);
        // two hours: 6 or 12, less 4 from tower 0 to cell 1
        plan(x, 1, 12, 2, 1, NONE, 1);
        plan(x, 1, 13, 2, 2, 0, 1);
        plan(x, 1, 14, 2, 2, 0, 1);
        plan(x, 1, 15, 2, NONE, NONE, NONE);
        // at cell 0: tower 1 bears 2 less, the ground is 10
        plan(x, 0, 2, 2, 1, NONE, 0);
        plan(x, 0, 3, 2, 2, 0, 1);
        plan(x, 0, 99, 20, 2, 0, 1);
        x.turn(0, 99);
        // left alone it is 96 behind an hour: 86 above the ground
        plan(x, 0, 86, 1, 0, NONE, NONE);
        plan(x, 0, 87, 1, 1, 0, NONE);
        plan(x, 0, 83, 2, 0, NONE, NONE);
        plan(x, 0, 84, 2, 1, 0, NONE);
    }

    /** p0 is due for player 0, p1 for player 1. */
    private static void plan(GurdyTide x, int c, int d, int n, int size, int p0, int p1) {
        String call = "seats " + c + " " + d + " " + n + " ";
        check.due(call + "how many", x.seats(c, d, n, NONE), size);
        check.due(call + "of 0", x.seats(c, d, n, 0), p0);
        check.due(call + "of 1", x.seats(c, d, n, 1), p1);
    }

    private static void seatsOrder() {
        // like arms, like towers: the lesser player sits, at the lesser tower
        GurdyTide x = Check.on("c0,0;t0 1;t0 1;t0 1;p5;p5;p4;");
        plan(x, 0, 5, 1, 1, 0, NONE);
        plan(x, 0, 10, 1, 2, 0, 1);
        check.due("the third rests", x.seats(0, 10, 1, 2), NONE);
        plan(x, 0, 9, 1, 2, 0, NONE);
        check.due("the third sits at 1", x.seats(0, 9, 1, 2), 1);
        plan(x, 0, 4, 1, 1, NONE, NONE);
        check.due("the third sits at 0", x.seats(0, 4, 1, 2), 0);
        plan(x, 0, 14, 1, 3, 0, 1);
        check.due("the third sits at 2", x.seats(0, 14, 1, 2), 2);
        plan(x, 0, 15, 1, NONE, NONE, NONE);
        // fewer is better than less arms together
        GurdyTide y = Check.on("c0,0;t0 1;t0 1;p1;p1;p9;");
        plan(y, 0, 2, 1, 1, NONE, NONE);
        check.due("one of arm 9", y.seats(0, 2, 1, 2), 0);
        // more players than towers, more towers than players
        GurdyTide z = Check.on("c0,0;t0 1;p2;p2;");
        plan(z, 0, 3, 1, NONE, NONE, NONE);
        GurdyTide w = Check.on("c0,0;t0 20;t1 20;p2;");
        check.due("one tower is near", w.seats(1, 2, 1, 0), 1);
        check.due("one player", w.seats(1, 3, 1, NONE), NONE);
        GurdyTide ones = Check.on("c0,0;t0 1;t0 1;t0 1;t0 1;t0 1;t0 1;p1;p1;p1;p1;p1;p1;");
        for (int d = 0; d <= 7; d++) {
            check.due("each winds 1", ones.seats(0, d, 1, NONE), d == 7 ? NONE : d);
        }
        for (int p = 0; p < 6; p++) {
            check.due("all six sit", ones.seats(0, 6, 1, p), p);
        }
        GurdyTide v = Check.on("c0,7;");
        check.due("nobody", v.seats(1, 0, 20, NONE), 0);
        check.due("nobody", v.seats(1, 1, 20, NONE), NONE);
    }

    /** Promise 21, SEATS 'of the least ARMS together': six players of ARM 9 are a plan like any other. */
    private static void seatsOfMostArms() {
        GurdyTide x = Check.on("c0,0;t0 1;t0 1;t0 1;t0 1;t0 1;t0 1;p9;p9;p9;p9;p9;p9;");
        check.due("six of 9", x.seats(0, 54, 1, NONE), 6);
        for (int p = 0; p < 6; p++) {
            check.due("of six of 9", x.seats(0, 54, 1, p), p);
        }
        check.due("five of 9", x.seats(0, 45, 1, NONE), 5);
        check.due("more than six of 9", x.seats(0, 55, 1, NONE), NONE);
    }

    private static void seatsOfTiredAndSleeping() {
        GurdyTide x = Check.on("c0,0;t0 1;t1 1;p4;p4;");
        x.sit(0, 0);
        x.hour(10);
        x.turn(0, 0);
        // player 0 is tired by 10 and winds 2 an hour
        plan(x, 0, 4, 1, 1, NONE, 0);
        plan(x, 0, 2, 1, 1, 0, NONE);
        // 2 each of five hours, then 1
        plan(x, 0, 11, 6, 1, 0, NONE);
        plan(x, 0, 12, 6, 1, NONE, 0);
        x.sleep(1, true);
        plan(x, 0, 4, 1, NONE, NONE, NONE);
        x.sleep(0, true);
        plan(x, 0, 1, 1, NONE, NONE, NONE);
        x.turn(1, 20);
        plan(x, 0, 16, 1, 0, NONE, NONE);
        plan(x, 0, 17, 1, NONE, NONE, NONE);
    }

    private static void seatsRefused() {
        GurdyTide x = Check.on("c0,0;t0 1;p4;");
        check.due("cell 2", x.seats(2, -1, 0, NONE), UNKNOWN);
        check.due("cell -1", x.seats(-1, 0, 1, NONE), UNKNOWN);
        check.due("player 1", x.seats(0, 100, 1, 1), UNKNOWN);
        check.due("player -2", x.seats(0, 0, 1, -2), UNKNOWN);
        check.due("d -1", x.seats(0, -1, 1, NONE), OUTSIDE);
        check.due("d 100", x.seats(0, 100, 1, NONE), OUTSIDE);
        check.due("n 0", x.seats(0, 0, 0, NONE), OUTSIDE);
        check.due("n 21", x.seats(0, 0, 21, NONE), OUTSIDE);
        check.due("no coast", new GurdyTide().seats(0, 0, 1, NONE), UNKNOWN);
    }

    private static void leaving() {
        check.due("no coast", new GurdyTide().leave(0), NONE);
        check.due("no coast", new GurdyTide().leave(1), NONE);
        check.due("what 2", new GurdyTide().leave(2), OUTSIDE);
        check.due("what -1", new GurdyTide().leave(-1), OUTSIDE);
        GurdyTide none = Check.on("c0,0;p1;");
        check.due("no towers", none.leave(0), NONE);
        check.due("no towers", none.leave(1), NONE);
        GurdyTide x = Check.on("c0,0;t0 4;t1 9;t1 2;");
        check.due("of like ones the least", x.leave(0), 0);
        check.due("no slope", x.leave(1), 0);
        x.turn(0, 10);
        x.turn(1, 10);
        x.turn(2, 10);
        // sea: 10 + 1 + 8, 6 + 10 + 10; less 0: 9, 20; less 1: 18, 16; less 2: 11, 16
        check.due("leave", x.leave(0), 1);
        check.due("how much", x.leave(1), 2);
        check.due("wound as it was", x.tower(1, 2), 10);
        x.turn(1, 6);
        // sea: 10 + 0 + 8, 6 + 6 + 10; less 0: 8, 16; less 1: 18, 16; less 2: 10, 12
        check.due("of like ones the least", x.leave(0), 1);
        check.due("how much", x.leave(1), 2);
    }

    private static void sharing() {
        check.due("no coast", new GurdyTide().share(999, NONE), 999);
        check.due("no coast", new GurdyTide().share(999, 0), UNKNOWN);
        GurdyTide x = Check.on("c10,20,0,7;t3 20;");
        check.due("of 0", x.share(100, 0), 27);
        check.due("of 1", x.share(100, 1), 54);
        check.due("of 2", x.share(100, 2), 0);
        check.due("of 3", x.share(100, 3), 18);
        check.due("left over", x.share(100, NONE), 1);
        x.turn(0, 8);
        check.due("of 0, 3 is wet", x.share(100, 0), 33);
        check.due("of 1, 3 is wet", x.share(100, 1), 66);
        check.due("of 3, which is wet", x.share(100, 3), 0);
        check.due("left over", x.share(100, NONE), 1);
        x.turn(0, 7);
        check.due("3 is not wet", x.share(100, 3), 18);
        check.due("nothing", x.share(0, 1), 0);
        check.due("nothing left", x.share(0, NONE), 0);
        check.due("most", x.share(999, 1), 540);
        check.due("x 1000", x.share(1000, 1), OUTSIDE);
        check.due("x -1", x.share(-1, NONE), OUTSIDE);
        check.due("cell 4", x.share(-1, 4), UNKNOWN);
        check.due("cell -2", x.share(1, -2), UNKNOWN);
        GurdyTide flat = Check.on("c0,0,1;t2 1;");
        flat.turn(0, 2);
        // the ground of the dry cell is 0
        check.due("of a dry cell", flat.share(50, 0), 0);
        check.due("left over", flat.share(50, NONE), 50);
        flat.turn(0, 1);
        // now the cell of ground 1 is dry: the sea is 1 there, the depth 0
        check.due("all to one", flat.share(50, 2), 50);
        check.due("nothing left over", flat.share(50, NONE), 0);
    }

    private static void calm() {
        GurdyTide x = new GurdyTide();
        check.due("0 days", x.calm(0, 0), 1000000000);
        check.due("0 days", x.calm(0, 100), 1000000000);
        check.due("1 day", x.calm(1, 37), 370000000);
        check.due("never", x.calm(1, 0), 0);
        check.due("always", x.calm(60, 100), 1000000000);
        // 1000000000, 10000000, 100000, 1000, 10, 0
        check.due("4 days", x.calm(4, 1), 10);
        check.due("5 days", x.calm(5, 1), 0);
        // 33 of a hundred: .., 11859210 * 33 / 100 = 3913539.3, * 33 / 100 = 1291467.87, each cut
        check.due("5 days of 33", x.calm(5, 33), 3913539);
        check.due("6 days of 33", x.calm(6, 33), 1291467);
        check.due("7 days of 33", x.calm(7, 33), 426184);
        check.due("n -1", x.calm(-1, 0), OUTSIDE);
        check.due("n 61", x.calm(61, 0), OUTSIDE);
        check.due("q -1", x.calm(0, -1), OUTSIDE);
        check.due("q 101", x.calm(0, 101), OUTSIDE);
    }

    private static void nothingChanges() {
        GurdyTide x = Check.on("c5,0;t0 4;t1 1;p9;p3;b1 0 1;");
        x.sit(0, 0);
        x.sit(1, 1);
        x.sleep(1, true);
        x.hour(3);
        x.sea(0, 100, 1);
        x.deepest(0, 100, 1);
        x.comes(0);
        x.seats(0, 40, 20, NONE);
        x.leave(0);
        x.share(9, 0);
        x.calm(9, 9);
        x.look();
        x.judge();
        x.told(14);
        check.due("hours", x.told(5), 3);
        check.due("wound", x.tower(0, 2), 27);
        check.due("wound", x.tower(1, 2), 0);
        check.due("tired", x.player(0, 1), 3);
        check.due("sits", x.told(11), 3);
        check.due("sleeps", x.told(12), 2);
        check.due("boat", x.boat(0, 1), 1);
        check.due("can be undone", x.told(18), 4);
        check.due("seed", x.seed(0), 0);
    }
}
