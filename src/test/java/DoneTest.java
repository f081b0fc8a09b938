/** Promises 10 to 17: what is done, and undone. */
public final class DoneTest {
    private static final int NONE = GurdyTide.NONE;
    private static final int UNKNOWN = GurdyTide.UNKNOWN;
    private static final int OUTSIDE = GurdyTide.OUTSIDE;
    private static final int NOT = GurdyTide.NOT;
    private static final int FULL = GurdyTide.FULL;
    private static final Check check = new Check("DoneTest");

    public static void main(String[] args) {
        hourRefused();
        hourWinds();
        hourTires();
        hourMovesBoats();
        sitting();
        resting();
        sleeping();
        turning();
        sending();
        drifting();
        driftWithoutPlayersOrTowers();
        undoing();
        undoingAfterMany();
        check.end();
    }

    private static void hourRefused() {
        GurdyTide x = new GurdyTide();
        check.due("hour 0", x.hour(0), OUTSIDE);
        check.due("hour 61", x.hour(61), OUTSIDE);
        check.due("no coast", x.hour(1), NOT);
        check.due("drift 0", x.drift(0), OUTSIDE);
        check.due("drift 61", x.drift(61), OUTSIDE);
        check.due("no coast", x.drift(1), NOT);
        Check.feed(x, "c0,0;");
        x.coast();
        for (int i = 1; i <= 150; i++) {
            check.due("hour 60", x.hour(60), 60 * i);
        }
        check.due("9000 are not above 9000", x.hour(1), 9001);
        check.due("hour when full", x.hour(1), FULL);
        check.due("drift when full", x.drift(60), FULL);
        check.due("outside when full", x.hour(61), OUTSIDE);
        check.due("outside when full", x.drift(-1), OUTSIDE);
        check.due("hours", x.told(5), 9001);
        check.due("undo", x.undo(), 15);
        check.due("drift again", x.drift(60), 9060);
        check.due("drift when full", x.drift(1), FULL);
        check.due("can be undone", x.told(18), 16);
    }

    private static void hourWinds() {
        GurdyTide x = Check.on("c0,0;t0 1;t1 1;t1 2;p7;p1;");
        x.turn(0, 90);
        x.turn(1, 2);
        x.turn(2, 50);
        x.sit(0, 0);
        x.sit(1, 2);
        x.sleep(1, true);
        check.due("hour", x.hour(1), 1);
        check.due("wound", x.tower(0, 2), 97);
        check.due("nobody there", x.tower(1, 2), 0);
        check.due("asleep there", x.tower(2, 2), 47);
        x.hour(1);
        check.due("99 at most", x.tower(0, 2), 99);
        x.sleep(1, false);
        x.hour(1);
        check.due("awake again", x.tower(2, 2), 45);
        check.due("hours", x.told(5), 3);
    }

    private static void hourTires() {
        GurdyTide x = Check.on("c0,0;t0 1;t1 1;p2;p9;");
        x.sit(0, 0);
        x.hour(5);
        check.due("2 each hour", x.tower(0, 2), 10);
        check.due("tired", x.player(0, 1), 5);
        x.hour(5);
        check.due("1 each hour", x.tower(0, 2), 15);
        x.hour(10);
        check.due("0 at least", x.tower(0, 2), 15);
        check.due("tired", x.player(0, 1), 20);
        x.sleep(0, true);
        x.hour(3);
        check.due("2 less each hour", x.player(0, 1), 14);
        check.due("3 less each hour", x.tower(0, 2), 6);
        x.rest(0);
        x.hour(7);
        check.due("2 less each hour", x.player(0, 1), 0);
        x.hour(1);
        check.due("0 at least", x.player(0, 1), 0);
        x.sleep(0, false);
        x.sit(0, 1);
        x.hour(1);
        x.sleep(0, true);
        x.hour(1);
        check.due("0 at least", x.player(0, 1), 0);
        x.sleep(0, false);
        x.hour(60);
        x.hour(39);
        check.due("99", x.player(0, 1), 99);
        x.hour(2);
        check.due("99 at most", x.player(0, 1), 99);
        check.due("the other is not tired", x.player(1, 1), 0);
    }

    private static void hourMovesBoats() {
        GurdyTide x = Check.on("c0,3,0;t1 1;b5 0 2;b5 2 0;b6 0 0;b5 0 1;");
        x.turn(0, 10);
        // behind the hour the tower is wound to 7: sea 6, 7, 6, depth 6, 4, 6
        x.hour(1);
        check.due("too shallow ahead", x.boat(0, 1), 0);
        check.due("too shallow ahead", x.boat(1, 1), 2);
        check.due("all float", x.told(9), 0);
        x.turn(0, 11);
        // wound to 8: depth 7, 5, 7
        x.hour(1);
        check.due("goes up", x.boat(0, 1), 1);
        check.due("goes down", x.boat(1, 1), 1);
        check.due("stays at Y", x.boat(2, 1), 0);
        check.due("comes", x.boat(3, 1), 1);
        check.due("at Y", x.told(10), 4 + 8);
        x.hour(1);
        // wound to 5: depth 4, 2, 4
        check.due("too shallow where it is", x.boat(0, 1), 1);
        check.due("aground, at Y too", x.told(9), 1 + 2 + 4 + 8);
        x.turn(0, 99);
        x.hour(2);
        check.due("there", x.boat(0, 1), 2);
        check.due("there", x.boat(1, 1), 0);
        check.due("at Y", x.told(10), 15);
        GurdyTide y = Check.on("c30,0,0,0;t0 9;b9 0 3;b10 3 1;");
        y.turn(0, 42);
        // wound to 39: sea 39, 30, 21, 12, depth 9, 30, 21, 12
        y.hour(1);
        check.due("one cell an hour", y.boat(0, 1), 1);
        check.due("one cell an hour", y.boat(1, 1), 2);
        y.hour(1);
        check.due("one cell an hour", y.boat(0, 1), 2);
        check.due("one cell an hour", y.boat(1, 1), 1);
    }

    private static void sitting() {
        GurdyTide x = Check.on("c0,0;t0 1;t1 1;p1;p1;");
        check.due("sit", x.sit(0, 1), NONE);
        check.due("he sits there", x.sit(0, 1), NOT);
        check.due("somebody sits there", x.sit(1, 1), NOT);
        check.due("sit elsewhere", x.sit(0, 0), 1);
        check.due("free now", x.sit(1, 1), NONE);
        check.due("where he sits", x.player(0, 2), 0);
        check.due("player -1", x.sit(-1, 0), UNKNOWN);
        check.due("player 2", x.sit(2, 0), UNKNOWN);
        check.due("tower -1", x.sit(0, -1), UNKNOWN);
        check.due("tower 2", x.sit(0, 2), UNKNOWN);
        check.due("can be undone", x.told(18), 3);
    }

    private static void resting() {
        GurdyTide x = Check.on("c0,0;t0 1;t1 1;p1;p1;");
        check.due("he rests", x.rest(0), NOT);
        x.sit(0, 1);
        check.due("rest", x.rest(0), 1);
        check.due("he rests", x.rest(0), NOT);
        check.due("nobody there", x.tower(1, 3), NONE);
        check.due("player -1", x.rest(-1), UNKNOWN);
        check.due("player 2", x.rest(2), UNKNOWN);
        check.due("can be undone", x.told(18), 2);
    }

    private static void sleeping() {
        GurdyTide x = Check.on("c0,0;p1;p1;");
        check.due("wake one awake", x.sleep(1, false), 0);
        check.due("sleep", x.sleep(1, true), 0);
        check.due("sleep again", x.sleep(1, true), 1);
        check.due("who sleeps", x.told(12), 2);
        check.due("wake", x.sleep(1, false), 1);
        check.due("who sleeps", x.told(12), 0);
        check.due("player 2", x.sleep(2, true), UNKNOWN);
        check.due("player -1", x.sleep(-1, false), UNKNOWN);
        check.due("can be undone", x.told(18), 4);
    }

    private static void turning() {
        GurdyTide x = Check.on("c0,0;t0 1;t1 1;");
        check.due("turn", x.turn(1, 99), 0);
        check.due("turn", x.turn(1, 0), 99);
        check.due("turn 100", x.turn(1, 100), OUTSIDE);
        check.due("turn -1", x.turn(1, -1), OUTSIDE);
        check.due("tower 2", x.turn(2, 100), UNKNOWN);
        check.due("tower -1", x.turn(-1, 0), UNKNOWN);
        check.due("wound", x.tower(1, 2), 0);
        check.due("can be undone", x.told(18), 2);
    }

    private static void sending() {
        GurdyTide x = Check.on("c0,0;t0 1;b1 1 0;");
        check.due("send from X", x.send(0), 1);
        x.turn(0, 50);
        x.hour(1);
        check.due("send", x.send(0), 0);
        check.due("at X again", x.boat(0, 1), 1);
        check.due("boat 1", x.send(1), UNKNOWN);
        check.due("boat -1", x.send(-1), UNKNOWN);
        check.due("can be undone", x.told(18), 4);
    }

    /** The draws are told here by the document's rule alone, with its own numbers. */
    private static void drifting() {
        for (int seed : new int[] {0, 1, 5, 99, 2147483647}) {
            GurdyTide x = Check.on("c0,9;t0 1;t1 2;t1 3;p5;p9;p2;b1 0 1;");
            GurdyTide y = Check.on("c0,9;t0 1;t1 2;t1 3;p5;p9;p2;b1 0 1;");
            x.seed(seed);
            check.due("drift", x.drift(40), 40);
            long s = seed;
            for (int i = 0; i < 40; i++) {
                s = next(s);
                int p = (int) (s / 65536 % 3);
                s = next(s);
                int what = (int) (s / 65536 % 6);
                if (what <= 1) {
                    y.sleep(p, what == 0);
                } else if (what == 2) {
                    y.rest(p);
                } else if (what == 3) {
                    s = next(s);
                    y.sit(p, (int) (s / 65536 % 3));
                }
                y.hour(1);
            }
            check.due("seed", x.seed(0), s);
            alike(x, y, 3, 3, 1);
            check.due("one thing to undo", x.undo(), 0);
            check.due("hours", x.told(5), 0);
            check.due("who sits", x.told(11), 0);
        }
    }

    private static long next(long s) {
        return (s * 1103515245L + 12345L) % 2147483648L;
    }

    private static void alike(GurdyTide x, GurdyTide y, int towers, int players, int boats) {
        check.due("hours", x.told(5), y.told(5));
        for (int t = 0; t < towers; t++) {
            check.due("wound", x.tower(t, 2), y.tower(t, 2));
            check.due("who sits there", x.tower(t, 3), y.tower(t, 3));
        }
        for (int p = 0; p < players; p++) {
            check.due("tired", x.player(p, 1), y.player(p, 1));
            check.due("tower", x.player(p, 2), y.player(p, 2));
            check.due("sleeps", x.player(p, 3), y.player(p, 3));
        }
        for (int b = 0; b < boats; b++) {
            check.due("where", x.boat(b, 1), y.boat(b, 1));
        }
    }

    private static void driftWithoutPlayersOrTowers() {
        GurdyTide x = Check.on("c0,0;t0 1;");
        x.seed(7);
        x.turn(0, 9);
        check.due("drift", x.drift(2), 2);
        check.due("let down", x.tower(0, 2), 3);
        check.due("no draw", x.seed(0), 7);
        GurdyTide y = Check.on("c0,0;p1;p1;");
        long s = 0;
        for (int i = 0; i < 60; i++) {
            s = next(next(s));
        }
        y.drift(60);
        check.due("two draws an hour", y.seed(0), s);
        check.due("nobody sits", y.told(11), 0);
    }

    private static void undoing() {
        GurdyTide x = Check.on("c0,0,0;t0 1;t1 1;p3;p4;b1 0 2;");
        check.due("none", x.undo(), NOT);
        x.sit(0, 0);
        x.sit(0, 1);
        x.sleep(1, true);
        x.turn(0, 40);
        x.hour(3);
        x.send(0);
        x.rest(0);
        x.seed(3);
        x.drift(2);
        int seed = x.seed(3);
        x.seed(seed);
        x.mark(0, 1, 1);
        check.due("drift", x.undo(), 7);
        check.due("seed stays", x.seed(seed), seed);
        check.due("marks stay", x.told(13), 1);
        check.due("hours", x.told(5), 3);
        check.due("rests", x.player(0, 2), NONE);
        check.due("rest", x.undo(), 6);
        check.due("sits", x.player(0, 2), 1);
        check.due("at X", x.boat(0, 1), 0);
        check.due("send", x.undo(), 5);
        check.due("at Y", x.boat(0, 1), 2);
        check.due("wound", x.tower(1, 2), 9);
        check.due("tired", x.player(0, 1), 3);
        check.due("hour", x.undo(), 4);
        check.due("hours", x.told(5), 0);
        check.due("at X", x.boat(0, 1), 0);
        check.due("tired", x.player(0, 1), 0);
        check.due("wound", x.tower(1, 2), 0);
        check.due("turned", x.tower(0, 2), 40);
        check.due("turn", x.undo(), 3);
        check.due("not wound", x.tower(0, 2), 0);
        check.due("sleeps", x.told(12), 2);
        check.due("sleep", x.undo(), 2);
        check.due("awake", x.told(12), 0);
        check.due("sit", x.undo(), 1);
        check.due("where he was", x.player(0, 2), 0);
        check.due("sit", x.undo(), 0);
        check.due("rests", x.player(0, 2), NONE);
        check.due("none", x.undo(), NOT);
    }

    private static void undoingAfterMany() {
        GurdyTide x = Check.on("c0,0;t0 1;");
        for (int i = 1; i <= 40; i++) {
            x.turn(0, i);
            check.due("can be undone", x.told(18), Math.min(16, i));
        }
        for (int i = 15; i >= 0; i--) {
            check.due("undo", x.undo(), i);
            check.due("wound", x.tower(0, 2), 24 + i);
        }
        check.due("the oldest are lost", x.undo(), NOT);
        check.due("refused changes nothing", x.tower(0, 2), 24);
        x.turn(0, 1);
        x.turn(0, 100);
        check.due("refused is not undone", x.undo(), 0);
        check.due("wound", x.tower(0, 2), 24);
    }
}
