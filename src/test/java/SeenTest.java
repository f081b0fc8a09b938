/** Promises 25 to 33: marks, what is seen, the book; draws, images. */
public final class SeenTest {
    private static final int NONE = GurdyTide.NONE;
    private static final int UNKNOWN = GurdyTide.UNKNOWN;
    private static final int OUTSIDE = GurdyTide.OUTSIDE;
    private static final int NOT = GurdyTide.NOT;
    private static final int FULL = GurdyTide.FULL;
    private static final Check check = new Check("SeenTest");

    public static void main(String[] args) {
        marksRefused();
        slept();
        sleptFromNow();
        looking();
        lookingAtParts();
        seeing();
        book();
        tearing();
        seeds();
        images();
        check.end();
    }

    private static void marksRefused() {
        check.due("no coast", new GurdyTide().mark(0, 0, 0), UNKNOWN);
        GurdyTide x = Check.on("c0,0;t0 1;p1;");
        check.due("cell 2", x.mark(2, 0, 0), UNKNOWN);
        check.due("cell -1", x.mark(-1, 1, 0), UNKNOWN);
        check.due("n 0", x.mark(0, 0, 0), OUTSIDE);
        check.due("n 21", x.mark(0, 21, 0), OUTSIDE);
        check.due("v -1", x.mark(0, 1, -1), OUTSIDE);
        check.due("v 1000", x.mark(0, 1, 1000), OUTSIDE);
        check.due("none", x.told(13), 0);
        check.due("first", x.mark(0, 20, 999), 1);
        for (int i = 2; i <= 6; i++) {
            check.due("mark", x.mark(1, 1, 0), i);
        }
        check.due("seventh", x.mark(1, 1, 0), FULL);
        check.due("seventh, outside", x.mark(1, 0, 0), OUTSIDE);
        check.due("seventh, unknown", x.mark(2, 1, 0), UNKNOWN);
        check.due("six", x.told(13), 6);
    }

    private static void slept() {
        GurdyTide x = Check.on("c0,0;t0 5;t1 5;t1 9;p4;p6;p4;p9;");
        check.due("nobody sits", x.told(14), 0);
        x.sit(0, 0);
        x.sit(1, 1);
        x.sit(2, 2);
        check.due("all who sit", x.told(14), 7);
        x.sleep(1, true);
        x.sleep(3, true);
        check.due("asleep or not", x.told(14), 7);
        // behind an hour at cell 1: without 0: 6 + 4, without 1: 4, without 2: 6
        x.mark(1, 1, 10);
        check.due("he of the first tower", x.told(14), 1);
        x.mark(1, 2, 20);
        check.due("behind two, too", x.told(14), 1);
        x.mark(0, 1, 3);
        check.due("none", x.told(14), 0);
        x.tear();
        // at cell 0: without 0: 1, without 1: 4, without 2: 5
        x.mark(0, 1, 4);
        check.due("the second", x.told(14), 2);
        x.tear();
        x.turn(2, 12);
        // at cell 0 behind an hour: without 0: 1 + 7, without 1: 4 + 7, without 2: 4 + 1
        x.mark(0, 1, 11);
        check.due("the second", x.told(14), 2);
        x.tear();
        x.mark(0, 1, 5);
        check.due("the third: let down to 9", x.told(14), 4);
    }

    private static void sleptFromNow() {
        GurdyTide x = Check.on("c0,0;t0 5;t1 5;p4;p6;");
        x.sit(0, 0);
        x.sit(1, 1);
        x.mark(0, 1, 4);
        check.due("the second", x.told(14), 2);
        x.turn(0, 4);
        // now behind an hour: without 0: 1 + 1, without 1: 8
        check.due("none from now", x.told(14), 0);
        x.undo();
        check.due("again", x.told(14), 2);
        x.rest(1);
        check.due("who sits no more", x.told(14), 0);
    }

    private static void looking() {
        check.due("no coast", new GurdyTide().look(), NONE);
        GurdyTide x = Check.on("c0,0,0;t2 1;t2 1;t0 20;p3;p3;p3;");
        check.due("nobody", x.look(), NONE);
        x.sit(0, 0);
        check.due("one", x.look(), NONE);
        x.sit(1, 1);
        check.due("two like ones", x.look(), NONE);
        x.sit(2, 2);
        // cell 0 behind an hour: without 0 or 1: 1 + 3, without 2: 1 + 1
        check.due("one is told apart", x.look(), 1);
        x.mark(0, 1, 4);
        check.due("the first two", x.told(14), 3);
        check.due("never told apart", x.look(), NONE);
        x.tear();
        x.mark(0, 1, 2);
        check.due("the third", x.told(14), 4);
        check.due("one", x.look(), NONE);
    }

    private static void lookingAtParts() {
        // cell 0 is dry for 4 hours; the arms are told apart at cell 1 sooner, but cells come first
        GurdyTide x = Check.on("c0,0;t1 4;t1 4;p1;p2;");
        x.sit(0, 0);
        x.sit(1, 1);
        // at cell 0: without 0 tower 1 bears 2n - 4, without 1 tower 0 bears n - 4: unlike from n = 3 on
        check.due("cell 0 behind 3", x.look(), 3);
        // three: a cell that parts all is better than one that parts two of them
        GurdyTide y = Check.on("c0,0,0;t0 20;t1 1;t2 1;p9;p5;p5;");
        y.sit(0, 0);
        y.sit(1, 1);
        y.sit(2, 2);
        // cell 0 behind 1: without 0: 4 + 3, without 1: 9 + 3, without 2: 9 + 4
        check.due("all parted", y.look(), 1);
        GurdyTide z = Check.on("c0,0;t0 20;t1 1;t1 1;p5;p5;p4;");
        z.sit(0, 0);
        z.sit(1, 1);
        z.sit(2, 2);
        // cell 0 behind 1: without 0: 4 + 3, without 1: 5 + 3, without 2: 5 + 4
        check.due("all parted", z.look(), 1);
        GurdyTide w = Check.on("c0,0;t0 9;t1 20;p9;p1;p1;p1;");
        w.sit(0, 0);
        w.sit(1, 1);
        check.due("cell 0", w.look(), 1);
        GurdyTide late = Check.on("c0,0;t1 20;t1 20;p2;p3;");
        late.sit(0, 0);
        late.sit(1, 1);
        // at cell 0 tower 1 bears any from the 9th hour on (5 of 3, then 2 each: 15 + 8 = 23)
        check.due("cell 0 behind 8", late.look(), 8);
        GurdyTide weak = Check.on("c0,0;t1 20;t1 20;p1;p2;");
        weak.sit(0, 0);
        weak.sit(1, 1);
        // neither is ever wound to more than 15: cell 0 stays as it is
        check.due("cell 1 behind 1", weak.look(), 101);
        GurdyTide six = Check.on("c0,0;t0 1;t0 1;t0 1;t0 1;t0 1;t0 1;p1;p2;p3;p4;p5;p6;");
        for (int p = 0; p < 6; p++) {
            six.sit(p, 5 - p);
        }
        check.due("all six", six.told(14), 63);
        check.due("all six parted", six.look(), 1);
        // 21 less the arm of who sleeps
        six.mark(0, 1, 17);
        check.due("he of arm 4", six.told(14), 8);
    }

    private static void seeing() {
        GurdyTide x = new GurdyTide();
        check.due("all", x.told(16), 2097150);
        check.due("w -1", x.see(-1, 0, 0), OUTSIDE);
        check.due("w 100", x.see(100, 0, 0), OUTSIDE);
        check.due("k -1", x.see(0, -1, 0), OUTSIDE);
        check.due("k 10", x.see(0, 10, 0), OUTSIDE);
        check.due("v -1", x.see(0, 0, -1), OUTSIDE);
        check.due("v 100", x.see(0, 0, 100), OUTSIDE);
        check.due("none", x.told(15), 0);
        check.due("own cell", x.see(99, 0, 99), 1);
        check.due("all", x.told(16), 2097150);
        check.due("bears none", x.see(90, 9, 0), 2);
        check.due("10 and more", x.told(16), 2097150 - 1022);
        check.due("bears some", x.see(99, 9, 0), 3);
        check.due("11 and more", x.told(16), 2097150 - 2046);
        check.due("one", x.see(40, 2, 10), 4);
        check.due("15", x.told(16), 1 << 15);
        check.due("the same", x.see(40, 2, 10), 5);
        check.due("15", x.told(16), 1 << 15);
        check.due("not so", x.see(40, 2, 11), 6);
        check.due("none", x.told(16), 0);
        check.due("seventh", x.see(0, 0, 0), FULL);
        check.due("seventh, outside", x.see(0, 10, 0), OUTSIDE);
        check.due("six", x.told(15), 6);
        x.tear();
        x.see(20, 1, 0);
        check.due("20", x.told(16), 1 << 20);
        x.tear();
        x.see(20, 1, 19);
        check.due("1", x.told(16), 2);
        x.tear();
        x.see(20, 0, 19);
        check.due("none", x.told(16), 0);
    }

    private static void book() {
        check.due("no coast", new GurdyTide().write(0, -1), UNKNOWN);
        check.due("no coast", new GurdyTide().judge(), NONE);
        GurdyTide x = Check.on("c9,0;t0 5;");
        check.due("empty", x.judge(), NONE);
        check.due("cell 2", x.write(2, 1000), UNKNOWN);
        check.due("cell -1", x.write(-1, 0), UNKNOWN);
        check.due("sea -1", x.write(0, -1), OUTSIDE);
        check.due("sea 1000", x.write(0, 1000), OUTSIDE);
        x.turn(0, 8);
        check.due("first", x.write(0, 8), 1);
        check.due("second", x.write(1, 3), 2);
        check.due("none is wrong", x.judge(), NONE);
        check.due("third", x.write(1, 4), 3);
        check.due("fourth", x.write(0, 999), 4);
        check.due("the third", x.judge(), 2);
        x.turn(0, 9);
        check.due("the first", x.judge(), 0);
        for (int i = 5; i <= 15; i++) {
            check.due("write", x.write(0, 9), i);
        }
        check.due("16th", x.write(0, 9), FULL);
        check.due("16th, outside", x.write(0, 1000), OUTSIDE);
        check.due("16th, unknown", x.write(2, 9), UNKNOWN);
        check.due("entries", x.told(17), 15);
    }

    private static void tearing() {
        GurdyTide x = Check.on("c9,0;t0 5;p1;");
        check.due("none", x.tear(), 0);
        x.mark(0, 1, 1);
        x.see(1, 1, 1);
        x.see(1, 1, 1);
        x.write(0, 1);
        x.write(0, 1);
        x.write(0, 1);
        check.due("all", x.tear(), 6);
        check.due("no marks", x.told(13), 0);
        check.due("nothing seen", x.told(15), 0);
        check.due("guts", x.told(16), 2097150);
        check.due("no book", x.told(17), 0);
        check.due("judge", x.judge(), NONE);
        check.due("again", x.tear(), 0);
    }

    private static void seeds() {
        GurdyTide x = new GurdyTide();
        check.due("first", x.seed(5), 0);
        check.due("-1", x.seed(-1), OUTSIDE);
        check.due("least", x.seed(Integer.MIN_VALUE), OUTSIDE);
        check.due("was 5", x.seed(2147483647), 5);
        check.due("was the most", x.seed(0), 2147483647);
        Check.feed(x, "c0,0;p1;");
        x.coast();
        x.drift(1);
        // 0 becomes 12345, and that 12345 * 1103515245 + 12345, left over by 2 to the 31
        check.due("two draws", x.seed(0), (12345L * 1103515245L + 12345L) % 2147483648L);
    }

    private static void images() {
        GurdyTide x = new GurdyTide();
        check.due("image -1", x.keep(-1), UNKNOWN);
        check.due("image 2", x.keep(2), UNKNOWN);
        check.due("image -1", x.goBack(-1), UNKNOWN);
        check.due("image 2", x.goBack(2), UNKNOWN);
        check.due("not kept", x.goBack(0), NOT);
        check.due("without a coast", x.keep(0), 1);
        x.seed(9);
        check.due("without a coast", x.goBack(0), 1);
        check.due("seed", x.seed(0), 0);
        Check.feed(x, "c0,0;t0 1;t1 1;p3;p4;b1 0 1;");
        x.coast();
        check.due("gone", x.goBack(0), NOT);
        x.sit(0, 1);
        x.sleep(1, true);
        x.hour(2);
        x.seed(1234);
        check.due("can be undone", x.told(18), 3);
        check.due("keep", x.keep(1), 1);
        check.due("nothing can be undone", x.told(18), 0);
        check.due("nothing can be undone", x.undo(), NOT);
        x.sleep(1, false);
        x.rest(0);
        x.send(0);
        x.turn(0, 70);
        x.drift(10);
        x.mark(0, 1, 1);
        check.due("the other is not kept", x.goBack(0), NOT);
        check.due("still", x.told(18), 5);
        check.due("keep the other", x.keep(0), 1);
        check.due("go back", x.goBack(1), 1);
        check.due("nothing can be undone", x.undo(), NOT);
        check.due("hours", x.told(5), 2);
        check.due("sits", x.player(0, 2), 1);
        check.due("tired", x.player(0, 1), 2);
        check.due("sleeps", x.told(12), 2);
        check.due("wound", x.tower(0, 2), 0);
        check.due("wound", x.tower(1, 2), 6);
        check.due("boat", x.boat(0, 1), 1);
        check.due("marks stay", x.told(13), 1);
        check.due("seed", x.seed(1), 1234);
        x.hour(1);
        check.due("undo", x.undo(), 0);
        x.turn(0, 33);
        check.due("again", x.goBack(1), 1);
        check.due("what was done since cannot be undone", x.told(18), 0);
        check.due("wound", x.tower(0, 2), 0);
        check.due("seed", x.seed(1), 1234);
        check.due("go to the other", x.goBack(0), 1);
        check.due("hours", x.told(5), 12);
        check.due("keep anew", x.keep(1), 1);
        check.due("go back", x.goBack(1), 1);
        check.due("hours", x.told(5), 12);
    }
}
