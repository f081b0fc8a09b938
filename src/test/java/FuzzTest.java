import java.util.Random;

/** Runs of calls drawn by fixed seeds, on GurdyTide and on Oracle: both must answer alike, and neither may throw. */
public final class FuzzTest {
    private static final int[] ODD = {-1, -2, 0, 1, 2, 6, 10, 20, 21, 60, 61, 99, 100, 101, 999, 1000, 9000,
        Integer.MIN_VALUE, Integer.MAX_VALUE};
    private static final Check check = new Check("FuzzTest");
    private static final Random random = new Random(20260);
    private static GurdyTide x;
    private static Oracle o;
    private static String trail;

    public static void main(String[] args) {
        int texts = args.length > 0 ? Integer.parseInt(args[0]) : 6000;
        int runs = args.length > 1 ? Integer.parseInt(args[1]) : 250;
        for (int i = 0; i < texts; i++) {
            begin();
            coast(i % 3 == 0 ? goodText() : spoilt(goodText()));
        }
        for (int i = 0; i < runs; i++) {
            begin();
            run(i);
        }
        check.end();
    }

    private static void begin() {
        x = new GurdyTide();
        o = new Oracle();
        trail = "";
    }

    private static void due(String call, int got, int want) {
        trail = trail.length() > 600 ? trail.substring(300) + "; " + call : trail + "; " + call;
        check.due(got == want ? call : trail, got, want);
    }

    private static void coast(String text) {
        for (int i = 0; i < text.length(); i++) {
            due("feed " + text.charAt(i), x.feed(text.charAt(i)), o.feed(text.charAt(i)));
        }
        trail = "coast of '" + text + "'";
        due("", x.coast(), o.coast());
        due("fault", x.fault(), o.fault());
        for (int what = 0; what <= 18; what++) {
            due("told " + what, x.told(what), o.told(what));
        }
    }

    private static String blanks() {
        return random.nextInt(8) == 0 ? " ".repeat(1 + random.nextInt(2)) : "";
    }

    private static String number(int least, int most) {
        int v = least + random.nextInt(most - least + 1);
        return blanks() + (random.nextInt(30) == 0 ? String.format("%03d", v) : String.valueOf(v));
    }

    private static String goodText() {
        int cells = 2 + random.nextInt(9);
        int high = random.nextBoolean() ? 60 : 15;
        StringBuilder s = new StringBuilder(blanks() + "c" + number(0, high));
        for (int i = 1; i < cells; i++) {
            s.append(blanks()).append(',').append(number(0, high));
        }
        s.append(blanks()).append(';');
        int[] left = {random.nextInt(7), random.nextInt(7), random.nextInt(5)};
        while (left[0] + left[1] + left[2] > 0) {
            int k = random.nextInt(3);
            if (left[k] == 0) {
                continue;
            }
            left[k]--;
            String clause = k == 0 ? "t" + number(0, cells - 1) + " " + number(1, random.nextBoolean() ? 5 : 20)
                    : k == 1 ? "p" + number(1, 9)
                    : "b" + number(1, 30) + " " + number(0, cells - 1) + " " + number(0, cells - 1);
            s.append(blanks()).append(clause).append(blanks()).append(';');
        }
        s.append(blanks());
        return s.length() > 240 ? goodText() : s.toString();
    }

    private static String spoilt(String text) {
        StringBuilder s = new StringBuilder(text);
        for (int times = 1 + random.nextInt(2); times > 0 && s.length() > 0; times--) {
            int i = random.nextInt(s.length());
            switch (random.nextInt(6)) {
                case 0 -> s.deleteCharAt(i);
                case 1 -> s.insert(i, "ctpb,; 0123456789".charAt(random.nextInt(17)));
                case 2 -> s.setCharAt(i, "ctpb,; 0123456789".charAt(random.nextInt(17)));
                case 3 -> s.setLength(i);
                case 4 -> s.setCharAt(i, (char) random.nextInt(256));
                default -> s.append("ctpb".charAt(random.nextInt(4)));
            }
        }
        return s.length() > 240 ? s.substring(0, 240) : s.toString();
    }

    private static int in(int least, int most) {
        return random.nextInt(30) == 0 ? ODD[random.nextInt(ODD.length)] : least + random.nextInt(most - least + 1);
    }

    private static int cell() {
        return in(0, Math.max(0, o.told(0) - 1));
    }

    private static int tower() {
        return in(0, Math.max(0, o.told(1) - 1));
    }

    private static int player() {
        return in(0, Math.max(0, o.told(2) - 1));
    }

    private static int boat() {
        return in(0, Math.max(0, o.told(3) - 1));
    }

    private static void run(int nth) {
        if (nth % 20 != 0) {
            coast(goodText());
        }
        for (int i = 0; i < 120; i++) {
            switch (random.nextInt(5)) {
                case 0 -> ask();
                case 1 -> doSomething();
                case 2 -> sitDown();
                case 3 -> trySomething();
                default -> noteSomething();
            }
        }
        if (random.nextInt(4) == 0) {
            coast(spoilt(goodText()));
        }
        for (int what = -1; what <= 19; what++) {
            due("told " + what, x.told(what), o.told(what));
        }
    }

    private static void ask() {
        int what = in(0, 3);
        int k = random.nextInt(5);
        if (k == 0) {
            int w = in(0, 18);
            due("told " + w, x.told(w), o.told(w));
        } else if (k == 1) {
            int c = cell();
            due("cell " + c + " " + what, x.cell(c, what), o.cell(c, what));
        } else if (k == 2) {
            int t = tower();
            due("tower " + t + " " + what, x.tower(t, what), o.tower(t, what));
        } else if (k == 3) {
            int p = player();
            due("player " + p + " " + what, x.player(p, what), o.player(p, what));
        } else {
            int b = boat();
            due("boat " + b + " " + what, x.boat(b, what), o.boat(b, what));
        }
    }

    private static void sitDown() {
        int p = player();
        int t = tower();
        due("sit " + p + " " + t, x.sit(p, t), o.sit(p, t));
    }

    private static void doSomething() {
        int p = player();
        int t = tower();
        int b = boat();
        int n = random.nextInt(3) == 0 ? in(1, 60) : in(1, 8);
        switch (random.nextInt(12)) {
            case 0, 1, 2 -> due("hour " + n, x.hour(n), o.hour(n));
            case 3 -> due("rest " + p, x.rest(p), o.rest(p));
            case 4 -> due("sleep " + p, x.sleep(p, true), o.sleep(p, true));
            case 5 -> due("wake " + p, x.sleep(p, false), o.sleep(p, false));
            case 6 -> due("turn " + t + " " + n, x.turn(t, n), o.turn(t, n));
            case 7 -> due("send " + b, x.send(b), o.send(b));
            case 8 -> due("drift " + n, x.drift(n), o.drift(n));
            case 9 -> due("undo", x.undo(), o.undo());
            case 10 -> {
                int i = in(0, 1);
                due("keep " + i, x.keep(i), o.keep(i));
            }
            default -> {
                int i = in(0, 1);
                due("goBack " + i, x.goBack(i), o.goBack(i));
            }
        }
    }

    private static void trySomething() {
        int c = cell();
        int n = in(0, 100);
        int what = in(0, 1);
        int b = boat();
        int d = in(0, random.nextBoolean() ? 20 : 99);
        int q = in(0, 100);
        switch (random.nextInt(7)) {
            case 0 -> due("sea " + c + " " + n + " " + what, x.sea(c, n, what), o.sea(c, n, what));
            case 1 -> due("deepest " + c + " " + n + " " + what, x.deepest(c, n, what), o.deepest(c, n, what));
            case 2 -> due("comes " + b, x.comes(b), o.comes(b));
            case 3 -> seats(c, d);
            case 4 -> due("leave " + what, x.leave(what), o.leave(what));
            case 5 -> {
                int share = in(0, 999);
                int of = in(-1, Math.max(0, o.told(0) - 1));
                due("share " + share + " " + of, x.share(share, of), o.share(share, of));
            }
            default -> due("calm " + q + " " + d, x.calm(q % 61, d), o.calm(q % 61, d));
        }
    }

    /** Where there are many plans Oracle is slow, and only one player is asked for. */
    private static void seats(int c, int d) {
        int n = in(1, random.nextBoolean() ? 20 : 4);
        int players = o.told(2);
        if (players * o.told(1) > 20) {
            int p = in(-1, players - 1);
            due("seats " + c + " " + d + " " + n + " " + p, x.seats(c, d, n, p), o.seats(c, d, n, p));
            return;
        }
        for (int p = -1; p < players; p++) {
            due("seats " + c + " " + d + " " + n + " " + p, x.seats(c, d, n, p), o.seats(c, d, n, p));
        }
    }

    private static void noteSomething() {
        int c = cell();
        int n = in(1, 20);
        switch (random.nextInt(9)) {
            case 0, 1 -> {
                int v = truth(c, n);
                due("mark " + c + " " + n + " " + v, x.mark(c, n, v), o.mark(c, n, v));
                due("told 14", x.told(14), o.told(14));
            }
            case 2, 3 -> due("look", x.look(), o.look());
            case 4 -> {
                int w = in(0, 99);
                int k = in(0, 9);
                int v = random.nextInt(5) == 0 ? in(0, 99) : Math.max(0, Math.min(99, w) - Math.max(0, k) * 4);
                due("see " + w + " " + k + " " + v, x.see(w, k, v), o.see(w, k, v));
                due("told 16", x.told(16), o.told(16));
            }
            case 5 -> {
                int v = random.nextInt(5) == 0 ? in(0, 999) : o.cell(c, 1);
                due("write " + c + " " + v, x.write(c, v), o.write(c, v));
            }
            case 6 -> due("tear", x.tear(), o.tear());
            case 7 -> due("judge", x.judge(), o.judge());
            default -> {
                int v = random.nextInt(3) == 0 ? in(0, 9) : random.nextInt();
                due("seed " + v, x.seed(v), o.seed(v));
            }
        }
    }

    /** A sea that may be marked: what it would be as things are, most of the time. */
    private static int truth(int c, int n) {
        int v = o.sea(c, n, 0);
        return v < 0 || random.nextInt(6) == 0 ? in(0, 999) : v;
    }
}
