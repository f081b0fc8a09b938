/** Promises 1 to 9: the new object, the text and its faults, what is told of the coast. */
public final class CoastTest {
    private static final int NONE = GurdyTide.NONE;
    private static final int UNKNOWN = GurdyTide.UNKNOWN;
    private static final int OUTSIDE = GurdyTide.OUTSIDE;
    private static final int FULL = GurdyTide.FULL;
    private static final Check check = new Check("CoastTest");

    public static void main(String[] args) {
        newObject();
        feeding();
        goodTexts();
        faultsOne();
        faultsTwo();
        faultsThree();
        whatACoastChanges();
        whatAFaultLeaves();
        told();
        cells();
        towersPlayersBoats();
        check.end();
    }

    private static void newObject() {
        GurdyTide x = new GurdyTide();
        for (int what = 0; what <= 18; what++) {
            check.due("new told(" + what + ")", x.told(what), what == 7 ? NONE : what == 16 ? 2097150 : 0);
        }
        check.due("new fault", x.fault(), NONE);
        check.due("new cell", x.cell(0, 0), UNKNOWN);
        check.due("new tower", x.tower(0, 0), UNKNOWN);
        check.due("new player", x.player(0, 0), UNKNOWN);
        check.due("new boat", x.boat(0, 0), UNKNOWN);
        check.due("new seed", x.seed(0), 0);
    }

    private static void feeding() {
        GurdyTide x = new GurdyTide();
        check.due("feed -1", x.feed(-1), OUTSIDE);
        check.due("feed 256", x.feed(256), OUTSIDE);
        check.due("feed least", x.feed(Integer.MIN_VALUE), OUTSIDE);
        check.due("feed most", x.feed(Integer.MAX_VALUE), OUTSIDE);
        check.due("letters", x.told(4), 0);
        check.due("feed 0", x.feed(0), 1);
        check.due("feed 255", x.feed(255), 2);
        for (int i = 3; i <= 240; i++) {
            check.due("feed", x.feed(32), i);
        }
        check.due("feed 241st", x.feed(32), FULL);
        check.due("feed 241st, outside", x.feed(256), OUTSIDE);
        check.due("letters", x.told(4), 240);
        check.due("coast", x.coast(), -11);
        check.due("fault", x.fault(), 0);
        check.due("letters", x.told(4), 0);
        check.due("feed again", x.feed(32), 1);
    }

    private static void text(String text, int answer, int fault) {
        GurdyTide x = new GurdyTide();
        Check.feed(x, text);
        check.due("coast of '" + text + "'", x.coast(), answer);
        check.due("fault of '" + text + "'", x.fault(), fault);
        check.due("letters behind '" + text + "'", x.told(4), 0);
        check.due("cells of '" + text + "'", x.told(0), Math.max(0, answer));
    }

    private static void goodTexts() {
        text("", 0, NONE);
        text("   ", 0, NONE);
        text("c0,0;", 2, NONE);
        text("c0,60;", 2, NONE);
        text("c000,060;", 2, NONE);
        text("c0,1,2,3,4,5,6,7,8,9;", 10, NONE);
        text("  c 0 , 0 ;  ", 2, NONE);
        text("c0,0;t1 20;p9;b30 1 0; t 0 1 ; p 1 ; b 1 0  0 ;", 2, NONE);
        text("c0,0;b1 0 0;p1;t0 1;b1 0 0;p1;t0 1;", 2, NONE);
        text("c0,0;t0 1;t0 1;t0 1;t0 1;t0 1;t0 1;", 2, NONE);
        text("c0,0;p1;p1;p1;p1;p1;p1;", 2, NONE);
        text("c0,0;b1 0 0;b1 0 0;b1 0 0;b1 0 0;", 2, NONE);
        StringBuilder longest = new StringBuilder("c0,0;");
        while (longest.length() < 240) {
            longest.append(' ');
        }
        text(longest.toString(), 2, NONE);
    }

    private static void faultsOne() {
        text("t0 1;", -11, 0);
        text("  t0 1;", -11, 2);
        text("x", -11, 0);
        text("0", -11, 0);
        text(";", -11, 0);
        text("C0,0;", -11, 0);
        text("\tc0,0;", -11, 0);
        text("c", -11, 1);
        text("c  ", -11, 3);
        text("c,", -11, 1);
        text("c;", -11, 1);
        text("cc", -11, 1);
        text("c1", -11, 2);
        text("c1;", -11, 2);
        text("c1 ;", -11, 3);
        text("c1 2,3;", -11, 3);
        text("c1x", -11, 2);
        text("c1,", -11, 3);
        text("c1,;", -11, 3);
        text("c1,-1;", -11, 3);
        text("c1,2", -11, 4);
        text("c1,2   ", -11, 7);
        text("c1,2t", -11, 4);
        text("c1,2c", -11, 4);
        text("c0,1,2,3,4,5,6,7,8,9,10;", -11, 20);
        text("c0,1,2,3,4,5,6,7,8,9 , 61;", -11, 21);
        text("c0,0;;", -11, 5);
        text("c0,0;x", -11, 5);
        text("c0,0;1", -11, 5);
        text("c0,0;,", -11, 5);
        text("c0,0;t", -11, 6);
        text("c0,0;t;", -11, 6);
        text("c0,0;t1;", -11, 7);
        text("c0,0;t01;", -11, 8);
        text("c0,0;t0,1;", -11, 7);
        text("c0,0;t0 1", -11, 9);
        text("c0,0;t0 1 2;", -11, 10);
        text("c0,0;t0 1 2222;", -11, 10);
        text("c0,0;t0 1,", -11, 9);
        text("c0,0;tt", -11, 6);
        text("c0,0;p;", -11, 6);
        text("c0,0;p1", -11, 7);
        text("c0,0;p1 1;", -11, 8);
        text("c0,0;b1 0;", -11, 9);
        text("c0,0;b1 0 0", -11, 11);
        text("c0,0;b1 0 0 0;", -11, 12);
        text("c0,0;b1 0c", -11, 9);
        text("c0,0;p1;" + (char) 200, -11, 8);
    }

    private static void faultsTwo() {
        text("c61,0;", -12, 1);
        text("c 61", -12, 2);
        text("c0,61;", -12, 3);
        text("c0, 999;", -12, 4);
        text("c0000,0;", -12, 1);
        text("c99999999999999999999", -12, 1);
        text("c0,4294967296;", -12, 3);
        text("c0,0;t2 1;", -12, 6);
        text("c0,0;t2", -12, 6);
        text("c0,0;t0000 1;", -12, 6);
        text("c0,0;t1 0;", -12, 8);
        text("c0,0;t1 21;", -12, 8);
        text("c0,0;t2 21;", -12, 6);
        text("c0,0;p0;", -12, 6);
        text("c0,0;p10;", -12, 6);
        text("c0,0;p0x", -12, 6);
        text("c0,0;b0 0 0;", -12, 6);
        text("c0,0;b31 0 0;", -12, 6);
        text("c0,0;b30 2 0;", -12, 9);
        text("c0,0;b30 1  2;", -12, 12);
        text("c0,0,0;b30 2 3;", -12, 13);
    }

    private static void faultsThree() {
        text("c0,0;c", -13, 5);
        text("c0,0; c0,0;", -13, 6);
        text("c0,0;p1;c0,0;", -13, 8);
        text("c0,0;t0 1;t0 1;t0 1;t0 1;t0 1;t0 1;t", -13, 35);
        text("c0,0;p1;p1;p1;p1;p1;p1; p", -13, 24);
        text("c0,0;b1 0 0;b1 0 0;b1 0 0;b1 0 0;b", -13, 33);
        text("c0,0;t0 1;t0 1;t0 1;t0 1;t0 1;t0 1;x;t", -11, 35);
    }

    private static void whatACoastChanges() {
        GurdyTide x = Check.on("c1,1;t0 1;p9;b1 0 1;");
        x.sit(0, 0);
        x.seed(77);
        x.keep(1);
        x.hour(5);
        x.sleep(0, true);
        x.mark(0, 1, 1);
        x.see(1, 1, 1);
        x.write(0, 1);
        check.due("moved", x.boat(0, 1), 1);
        Check.feed(x, "c2,2,2;t2 3;p4;b5 1 0;");
        check.due("coast", x.coast(), 3);
        int[] due = {3, 1, 1, 1, 0, 0, 0, 0, 0, 1, 0, 0, 0, 0, 0, 0, 2097150, 0, 0};
        for (int what = 0; what < due.length; what++) {
            check.due("told " + what, x.told(what), due[what]);
        }
        check.due("not wound", x.tower(0, 2), 0);
        check.due("not tired", x.player(0, 1), 0);
        check.due("rests", x.player(0, 2), NONE);
        check.due("awake", x.player(0, 3), 0);
        check.due("at X", x.boat(0, 1), 1);
        check.due("no image", x.goBack(1), GurdyTide.NOT);
        check.due("nothing to undo", x.undo(), GurdyTide.NOT);
        check.due("judge", x.judge(), NONE);
        check.due("seed stays", x.seed(77), 77);
        x.keep(0);
        check.due("empty text", x.coast(), 0);
        check.due("no cells", x.told(0), 0);
        check.due("no towers", x.told(1), 0);
        check.due("no cell of slope", x.told(7), NONE);
        check.due("no image", x.goBack(0), GurdyTide.NOT);
        check.due("seed stays", x.seed(0), 77);
        check.due("no hour", x.hour(1), GurdyTide.NOT);
    }

    private static void whatAFaultLeaves() {
        GurdyTide x = Check.on("c1,1;t0 1;p9;b1 0 1;");
        x.keep(1);
        x.sit(0, 0);
        x.hour(5);
        x.sleep(0, true);
        x.mark(0, 1, 1);
        x.see(1, 1, 0);
        x.write(0, 1);
        Check.feed(x, "c3,3,3;t1 4;p3;p3;b2 1 1;b0");
        check.due("coast", x.coast(), -12);
        check.due("fault", x.fault(), 26);
        int[] due = {2, 1, 1, 1, 0, 5, 1, 0, 3, 0, 1, 1, 1, 1, 0, 1, 2097150, 1, 3};
        for (int what = 0; what < due.length; what++) {
            check.due("told " + what, x.told(what), due[what]);
        }
        check.due("wound", x.tower(0, 2), 45);
        check.due("ground", x.cell(0, 0), 1);
        check.due("undo", x.undo(), 2);
        check.due("image", x.goBack(1), 1);
        check.due("fault stays", x.fault(), 26);
        check.due("empty text", x.coast(), 0);
        check.due("no fault", x.fault(), NONE);
    }

    private static void told() {
        GurdyTide x = Check.on("c5,0,9,4;t0 5;t3 2;p6;p3;b2 1 3;b1 3 3;b30 0 1;");
        check.due("cells", x.told(0), 4);
        check.due("towers", x.told(1), 2);
        check.due("players", x.told(2), 2);
        check.due("boats", x.told(3), 3);
        x.feed('c');
        check.due("letters", x.told(4), 1);
        check.due("hours", x.told(5), 0);
        check.due("slope", x.told(6), 0);
        check.due("its cell", x.told(7), 0);
        check.due("aground, at Y too", x.told(9), 7);
        check.due("at Y", x.told(10), 2);
        x.turn(0, 12);
        x.turn(1, 7);
        // sea: 12 + 1, 7 + 3, 2 + 5, 0 + 7
        check.due("slope of like ones", x.told(6), 3);
        check.due("the least", x.told(7), 0);
        check.due("wet", x.told(8), 1 + 2 + 8);
        check.due("aground", x.told(9), 4);
        x.turn(0, 6);
        // sea: 6 + 1, 1 + 3, 5, 7
        check.due("slope", x.told(6), 3);
        check.due("its cell", x.told(7), 0);
        x.turn(1, 60);
        // sea: 6 + 54, 1 + 56, 58, 60
        check.due("slope up and down", x.told(6), 3);
        x.turn(0, 0);
        check.due("slope up", x.told(6), 2);
        check.due("of like ones the least", x.told(7), 0);
        x.turn(1, 3);
        // sea: 0, 0, 1, 3
        check.due("slope behind", x.told(6), 2);
        check.due("its cell behind", x.told(7), 2);
        check.due("not wet where as high as the ground", x.told(8), 0);
        x.turn(1, 4);
        check.due("ground 4, sea 4", x.told(8), 0);
        x.turn(1, 5);
        check.due("ground 4, sea 5; ground 0, sea 1", x.told(8), 8 + 2);
        x.sit(1, 0);
        check.due("who sits", x.told(11), 2);
        x.sleep(0, true);
        check.due("who sleeps", x.told(12), 1);
        x.mark(0, 1, 3);
        x.mark(0, 1, 3);
        check.due("marks", x.told(13), 2);
        check.due("slept", x.told(14), 0);
        x.see(9, 2, 3);
        check.due("seen", x.told(15), 1);
        check.due("guts", x.told(16), 8);
        x.write(0, 0);
        x.write(0, 0);
        x.write(0, 0);
        check.due("entries", x.told(17), 3);
        check.due("can be undone", x.told(18), 10);
        check.due("told -1", x.told(-1), OUTSIDE);
        check.due("told 19", x.told(19), OUTSIDE);
    }

    private static void cells() {
        GurdyTide x = Check.on("c5,0,60;t0 5;t1 20;t1 3;");
        check.due("none bears any", x.cell(0, 3), NONE);
        x.turn(0, 14);
        x.turn(1, 19);
        x.turn(2, 9);
        check.due("ground", x.cell(2, 0), 60);
        check.due("sea 0", x.cell(0, 1), 14 + 0 + 6);
        check.due("sea 1", x.cell(1, 1), 9 + 19 + 9);
        check.due("sea 2", x.cell(2, 1), 4 + 0 + 6);
        check.due("depth 0", x.cell(0, 2), 15);
        check.due("depth 1", x.cell(1, 2), 37);
        check.due("depth 2", x.cell(2, 2), 0);
        check.due("strongest 0", x.cell(0, 3), 0);
        check.due("strongest 1", x.cell(1, 3), 1);
        check.due("strongest 2", x.cell(2, 3), 2);
        x.turn(1, 9);
        check.due("strongest of like ones", x.cell(1, 3), 0);
        x.turn(0, 11);
        x.turn(2, 0);
        check.due("bears 1 alone", x.cell(2, 3), 0);
        x.turn(0, 10);
        check.due("bears none", x.cell(2, 3), NONE);
        check.due("cell -1", x.cell(-1, 9), UNKNOWN);
        check.due("cell 3", x.cell(3, 0), UNKNOWN);
        check.due("what -1", x.cell(0, -1), OUTSIDE);
        check.due("what 4", x.cell(0, 4), OUTSIDE);
    }

    private static void towersPlayersBoats() {
        GurdyTide x = Check.on("c0,0,0;t2 7;t1 20;p9;p2;b30 2 1;b4 0 2;");
        x.sit(1, 0);
        x.sleep(0, true);
        x.turn(1, 8);
        x.hour(1);
        int[][] towers = {{2, 7, 2, 1}, {1, 20, 5, NONE}};
        int[][] players = {{9, 0, NONE, 1}, {2, 1, 0, 0}};
        int[][] boats = {{30, 2, 2, 1}, {4, 0, 0, 2}};
        for (int i = 0; i < 2; i++) {
            for (int what = 0; what < 4; what++) {
                check.due("tower " + i + " " + what, x.tower(i, what), towers[i][what]);
                check.due("player " + i + " " + what, x.player(i, what), players[i][what]);
                check.due("boat " + i + " " + what, x.boat(i, what), boats[i][what]);
            }
        }
        for (int i : new int[] {-1, 2, Integer.MIN_VALUE, Integer.MAX_VALUE}) {
            check.due("tower " + i, x.tower(i, 9), UNKNOWN);
            check.due("player " + i, x.player(i, 9), UNKNOWN);
            check.due("boat " + i, x.boat(i, 9), UNKNOWN);
        }
        for (int what : new int[] {-1, 4, Integer.MIN_VALUE, Integer.MAX_VALUE}) {
            check.due("tower what " + what, x.tower(0, what), OUTSIDE);
            check.due("player what " + what, x.player(0, what), OUTSIDE);
            check.due("boat what " + what, x.boat(0, what), OUTSIDE);
        }
    }
}
