import java.util.ArrayDeque;
import java.util.ArrayList;
import java.util.Deque;
import java.util.HashMap;
import java.util.List;
import java.util.Map;
import java.util.regex.Matcher;
import java.util.regex.Pattern;

/**
 * The document again, told in another way: slowly, by trying everything whole, with the library's lists and patterns.
 * FuzzTest holds GurdyTide against it.
 */
final class Oracle {
    private static final int NONE = -1, UNKNOWN = -1000000001, OUTSIDE = -1000000002, NOT = -1000000003, FULL = -1000000004;
    private static final String N = " *[0-9]+";
    private static final Pattern SYNTAX = Pattern.compile(" *c" + N + "( *," + N + "){1,9} *;"
            + "( *(t" + N + " " + N + "|p" + N + "|b" + N + " " + N + " " + N + ") *;)*( *c.*)? *", Pattern.DOTALL);

    /** Section 2, and what the coast is. */
    private static final class World {
        int[] ground = {};
        int[][] towers = {};
        int[] arms = {};
        int[][] boats = {};
        int hours;
        int[] wound = {};
        int[] at = {};
        boolean[] asleep = {};
        int[] tired = {};
        int[] where = {};

        World twin() {
            World w = new World();
            w.ground = ground;
            w.towers = towers;
            w.arms = arms;
            w.boats = boats;
            w.hours = hours;
            w.wound = wound.clone();
            w.at = at.clone();
            w.asleep = asleep.clone();
            w.tired = tired.clone();
            w.where = where.clone();
            return w;
        }

        int borne(int t, int c) {
            int left = wound[t];
            for (int i = Math.min(c, towers[t][0]); i < Math.max(c, towers[t][0]); i++) {
                left -= towers[t][1];
            }
            return left < 0 ? 0 : left;
        }

        int sea(int c) {
            int all = 0;
            for (int t = 0; t < wound.length; t++) {
                all += borne(t, c);
            }
            return all;
        }

        int depth(int c) {
            int d = sea(c) - ground[c];
            return d < 0 ? 0 : d;
        }

        int whoSitsAt(int t) {
            int who = NONE;
            for (int p = 0; p < at.length; p++) {
                who = at[p] == t ? p : who;
            }
            return who;
        }

        void anHour() {
            for (int p = 0; p < arms.length; p++) {
                if (at[p] >= 0 && !asleep[p]) {
                    int by = arms[p] - tired[p] / 5;
                    for (int i = 0; i < by; i++) {
                        wound[at[p]] += wound[at[p]] < 99 ? 1 : 0;
                    }
                    tired[p] += tired[p] < 99 ? 1 : 0;
                } else {
                    for (int i = 0; i < 2; i++) {
                        tired[p] -= tired[p] > 0 ? 1 : 0;
                    }
                }
            }
            for (int t = 0; t < towers.length; t++) {
                int p = whoSitsAt(t);
                if (p == NONE || asleep[p]) {
                    wound[t] = wound[t] < 3 ? 0 : wound[t] - 3;
                }
            }
            for (int b = 0; b < boats.length; b++) {
                int y = boats[b][2];
                if (where[b] != y) {
                    int next = y > where[b] ? where[b] + 1 : where[b] - 1;
                    if (depth(where[b]) >= boats[b][0] && depth(next) >= boats[b][0]) {
                        where[b] = next;
                    }
                }
            }
            hours++;
        }

        World behind(int n) {
            World w = twin();
            for (int i = 0; i < n; i++) {
                w.anHour();
            }
            return w;
        }

        int[] slope() {
            int[] most = {0, ground.length == 0 ? NONE : 0};
            for (int c = ground.length - 2; c >= 0; c--) {
                int d = Math.abs(sea(c + 1) - sea(c));
                if (d >= most[0]) {
                    most = new int[] {d, c};
                }
            }
            return most;
        }
    }

    private StringBuilder text = new StringBuilder();
    private int fault = NONE;
    private World world = new World();
    private long seed;
    private final Deque<World> undo = new ArrayDeque<>();
    private final Map<Integer, World> images = new HashMap<>();
    private final Map<Integer, Long> imageSeeds = new HashMap<>();
    private final List<int[]> marks = new ArrayList<>();
    private final List<int[]> seen = new ArrayList<>();
    private final List<int[]> book = new ArrayList<>();

    int feed(int letter) {
        if (letter < 0 || letter > 255) {
            return OUTSIDE;
        }
        if (text.length() == 240) {
            return FULL;
        }
        return text.append((char) letter).length();
    }

    int coast() {
        String s = text.toString();
        text = new StringBuilder();
        int[] f = s.isBlank() && s.chars().allMatch(x -> x == ' ') ? new int[] {Integer.MAX_VALUE, 0} : faultOf(s);
        if (f[1] != 0) {
            fault = f[0];
            return -10 - f[1];
        }
        fault = NONE;
        world = build(s);
        undo.clear();
        images.clear();
        marks.clear();
        seen.clear();
        book.clear();
        return world.ground.length;
    }

    /** The place and number of the first fault; the number is 0 if there is none. */
    private static int[] faultOf(String s) {
        int[] first = {Integer.MAX_VALUE, 0};
        for (int i = 1; i <= s.length() && first[1] == 0; i++) {
            Matcher m = SYNTAX.matcher(s.substring(0, i));
            if (!m.matches() && !m.hitEnd()) {
                first = new int[] {i - 1, 1};
            }
        }
        if (first[1] == 0 && !SYNTAX.matcher(s).matches()) {
            first = new int[] {s.length(), 1};
        }
        first = earlier(first, numberFault(s));
        return earlier(first, countFault(s));
    }

    private static int[] earlier(int[] a, int[] b) {
        if (a[0] != b[0]) {
            return a[0] < b[0] ? a : b;
        }
        return a[1] <= b[1] ? a : b;
    }

    private static int[] numberFault(String s) {
        int cells = 0;
        for (int i = 0; i < s.length() && s.charAt(i) != ';'; i++) {
            cells += s.charAt(i) == ',' ? 1 : 0;
        }
        Matcher m = Pattern.compile("[a-z]|[0-9]+").matcher(s);
        char word = ' ';
        int nth = 0;
        while (m.find()) {
            String g = m.group();
            if (Character.isLetter(g.charAt(0))) {
                word = g.charAt(0);
                nth = 0;
                continue;
            }
            long v = g.length() > 3 ? 1000000 : Long.parseLong(g);
            int[] bounds = {0, 1000};
            if (word == 'c') {
                bounds = new int[] {0, 60};
            } else if (word == 'p') {
                bounds = new int[] {1, 9};
            } else if (word == 't') {
                bounds = nth == 0 ? new int[] {0, cells} : new int[] {1, 20};
            } else if (word == 'b') {
                bounds = nth == 0 ? new int[] {1, 30} : new int[] {0, cells};
            }
            nth++;
            if (v < bounds[0] || v > bounds[1]) {
                return new int[] {m.start(), 2};
            }
        }
        return new int[] {Integer.MAX_VALUE, 0};
    }

    private static int[] countFault(String s) {
        int[] left = new int[256];
        left['c'] = 1;
        left['t'] = 6;
        left['p'] = 6;
        left['b'] = 4;
        for (int i = 0; i < s.length(); i++) {
            char x = s.charAt(i);
            if ("ctpb".indexOf(x) >= 0 && left[x]-- == 0) {
                return new int[] {i, 3};
            }
        }
        return new int[] {Integer.MAX_VALUE, 0};
    }

    private static World build(String s) {
        World w = new World();
        List<int[]> towers = new ArrayList<>();
        List<Integer> arms = new ArrayList<>();
        List<int[]> boats = new ArrayList<>();
        for (String clause : s.split(";")) {
            if (clause.isBlank()) {
                continue;
            }
            String body = clause.trim();
            String[] parts = body.substring(1).trim().split("[ ,]+");
            int[] v = new int[parts.length];
            for (int i = 0; i < v.length; i++) {
                v[i] = Integer.parseInt(parts[i]);
            }
            switch (body.charAt(0)) {
                case 'c' -> w.ground = v;
                case 't' -> towers.add(v);
                case 'p' -> arms.add(v[0]);
                default -> boats.add(v);
            }
        }
        w.towers = towers.toArray(new int[0][]);
        w.arms = arms.stream().mapToInt(i -> i).toArray();
        w.boats = boats.toArray(new int[0][]);
        w.wound = new int[w.towers.length];
        w.tired = new int[w.arms.length];
        w.asleep = new boolean[w.arms.length];
        w.at = new int[w.arms.length];
        java.util.Arrays.fill(w.at, NONE);
        w.where = boats.stream().mapToInt(b -> b[1]).toArray();
        return w;
    }

    int fault() {
        return fault;
    }

    private interface Holds {
        boolean of(int i);
    }

    private static int set(int n, Holds holds) {
        int s = 0;
        for (int i = 0; i < n; i++) {
            s += holds.of(i) ? 1 << i : 0;
        }
        return s;
    }

    int told(int what) {
        World w = world;
        return switch (what) {
            case 0 -> w.ground.length;
            case 1 -> w.towers.length;
            case 2 -> w.arms.length;
            case 3 -> w.boats.length;
            case 4 -> text.length();
            case 5 -> w.hours;
            case 6 -> w.slope()[0];
            case 7 -> w.slope()[1];
            case 8 -> set(w.ground.length, c -> w.depth(c) >= 1);
            case 9 -> set(w.boats.length, b -> w.depth(w.where[b]) < w.boats[b][0]);
            case 10 -> set(w.boats.length, b -> w.where[b] == w.boats[b][2]);
            case 11 -> set(w.arms.length, p -> w.at[p] != NONE);
            case 12 -> set(w.arms.length, p -> w.asleep[p]);
            case 13 -> marks.size();
            case 14 -> set(w.arms.length, this::mayHaveSlept);
            case 15 -> seen.size();
            case 16 -> set(21, g -> g > 0 && seen.stream().allMatch(s -> Math.max(0, s[0] - s[1] * g) == s[2]));
            case 17 -> book.size();
            case 18 -> undo.size();
            default -> OUTSIDE;
        };
    }

    private World withSleeper(int p) {
        World w = world.twin();
        for (int i = 0; i < w.asleep.length; i++) {
            w.asleep[i] = i == p;
        }
        return w;
    }

    private boolean mayHaveSlept(int p) {
        if (world.at[p] == NONE) {
            return false;
        }
        for (int[] m : marks) {
            if (withSleeper(p).behind(m[1]).sea(m[0]) != m[2]) {
                return false;
            }
        }
        return true;
    }

    private static boolean no(int i, int n) {
        return i < 0 || i >= n;
    }

    int cell(int c, int what) {
        if (no(c, world.ground.length)) {
            return UNKNOWN;
        }
        if (no(what, 4)) {
            return OUTSIDE;
        }
        if (what < 3) {
            return new int[] {world.ground[c], world.sea(c), world.depth(c)}[what];
        }
        int best = NONE;
        for (int t = world.towers.length - 1; t >= 0; t--) {
            if (world.borne(t, c) > 0 && (best == NONE || world.borne(t, c) >= world.borne(best, c))) {
                best = t;
            }
        }
        return best;
    }

    int tower(int t, int what) {
        if (no(t, world.towers.length)) {
            return UNKNOWN;
        }
        return no(what, 4) ? OUTSIDE
                : new int[] {world.towers[t][0], world.towers[t][1], world.wound[t], world.whoSitsAt(t)}[what];
    }

    int player(int p, int what) {
        if (no(p, world.arms.length)) {
            return UNKNOWN;
        }
        return no(what, 4) ? OUTSIDE
                : new int[] {world.arms[p], world.tired[p], world.at[p], world.asleep[p] ? 1 : 0}[what];
    }

    int boat(int b, int what) {
        if (no(b, world.boats.length)) {
            return UNKNOWN;
        }
        return no(what, 4) ? OUTSIDE
                : new int[] {world.boats[b][0], world.where[b], world.boats[b][1], world.boats[b][2]}[what];
    }

    private void done() {
        undo.push(world.twin());
        while (undo.size() > 16) {
            undo.removeLast();
        }
    }

    int hour(int n) {
        if (n < 1 || n > 60) {
            return OUTSIDE;
        }
        if (world.ground.length == 0) {
            return NOT;
        }
        if (world.hours > 9000) {
            return FULL;
        }
        done();
        world = world.behind(n);
        return world.hours;
    }

    int sit(int p, int t) {
        if (no(p, world.arms.length) || no(t, world.towers.length)) {
            return UNKNOWN;
        }
        if (world.whoSitsAt(t) != NONE) {
            return NOT;
        }
        done();
        int was = world.at[p];
        world.at[p] = t;
        return was;
    }

    int rest(int p) {
        if (no(p, world.arms.length)) {
            return UNKNOWN;
        }
        int was = world.at[p];
        if (was == NONE) {
            return NOT;
        }
        done();
        world.at[p] = NONE;
        return was;
    }

    int sleep(int p, boolean is) {
        if (no(p, world.arms.length)) {
            return UNKNOWN;
        }
        done();
        boolean was = world.asleep[p];
        world.asleep[p] = is;
        return was ? 1 : 0;
    }

    int turn(int t, int n) {
        if (no(t, world.towers.length)) {
            return UNKNOWN;
        }
        if (no(n, 100)) {
            return OUTSIDE;
        }
        done();
        int was = world.wound[t];
        world.wound[t] = n;
        return was;
    }

    int send(int b) {
        if (no(b, world.boats.length)) {
            return UNKNOWN;
        }
        done();
        int was = world.where[b];
        world.where[b] = world.boats[b][1];
        return was;
    }

    private int draw(int n) {
        seed = java.math.BigInteger.valueOf(seed).multiply(java.math.BigInteger.valueOf(1103515245))
                .add(java.math.BigInteger.valueOf(12345)).mod(java.math.BigInteger.TWO.pow(31)).longValue();
        return (int) (seed / 65536 % n);
    }

    int drift(int n) {
        if (n < 1 || n > 60) {
            return OUTSIDE;
        }
        if (world.ground.length == 0) {
            return NOT;
        }
        if (world.hours > 9000) {
            return FULL;
        }
        done();
        for (int i = 0; i < n; i++) {
            if (world.arms.length > 0) {
                int p = draw(world.arms.length);
                int k = draw(6);
                if (k == 0) {
                    world.asleep[p] = true;
                }
                if (k == 1) {
                    world.asleep[p] = false;
                }
                if (k == 2) {
                    world.at[p] = NONE;
                }
                if (k == 3 && world.towers.length > 0) {
                    int t = draw(world.towers.length);
                    world.at[p] = world.whoSitsAt(t) == NONE ? t : world.at[p];
                }
            }
            world.anHour();
        }
        return world.hours;
    }

    int undo() {
        if (undo.isEmpty()) {
            return NOT;
        }
        world = undo.pop();
        return undo.size();
    }

    int sea(int c, int n, int what) {
        if (no(c, world.ground.length)) {
            return UNKNOWN;
        }
        if (no(n, 101) || no(what, 2)) {
            return OUTSIDE;
        }
        World w = world.behind(n);
        return what == 0 ? w.sea(c) : w.depth(c);
    }

    int deepest(int c, int n, int what) {
        if (no(c, world.ground.length)) {
            return UNKNOWN;
        }
        if (no(n, 101) || no(what, 2)) {
            return OUTSIDE;
        }
        int when = n;
        for (int i = n; i >= 0; i--) {
            when = world.behind(i).depth(c) >= world.behind(when).depth(c) ? i : when;
        }
        return what == 0 ? when : world.behind(when).depth(c);
    }

    int comes(int b) {
        if (no(b, world.boats.length)) {
            return UNKNOWN;
        }
        World w = world.twin();
        for (int i = 0; i <= 200; i++) {
            if (w.where[b] == w.boats[b][2]) {
                return i;
            }
            w.anHour();
        }
        return NONE;
    }

    int seats(int c, int d, int n, int p) {
        if (no(c, world.ground.length) || p != NONE && no(p, world.arms.length)) {
            return UNKNOWN;
        }
        if (no(d, 100) || n < 1 || n > 20) {
            return OUTSIDE;
        }
        int[] seat = new int[world.arms.length];
        List<int[]> best = new ArrayList<>();
        everyPlan(seat, 0, plan -> {
            World w = world.twin();
            w.at = plan.clone();
            w.boats = new int[0][];
            if (w.behind(n).depth(c) >= d && (best.isEmpty() || better(plan, best.get(0)))) {
                best.clear();
                best.add(plan.clone());
            }
        });
        if (best.isEmpty()) {
            return NONE;
        }
        return p == NONE ? size(best.get(0)) : best.get(0)[p];
    }

    private interface Taker {
        void take(int[] plan);
    }

    /** In an order that is not the document's, so that better() has to tell all. */
    private void everyPlan(int[] seat, int p, Taker taker) {
        if (p == seat.length) {
            taker.take(seat);
            return;
        }
        for (int t = NONE; t < world.towers.length; t++) {
            boolean free = true;
            for (int i = 0; i < p; i++) {
                free &= t == NONE || seat[i] != t;
            }
            if (free) {
                seat[p] = t;
                everyPlan(seat, p + 1, taker);
            }
        }
    }

    private static int size(int[] plan) {
        return (int) java.util.Arrays.stream(plan).filter(t -> t != NONE).count();
    }

    private boolean better(int[] a, int[] b) {
        if (size(a) != size(b)) {
            return size(a) < size(b);
        }
        int arms = 0;
        for (int p = 0; p < a.length; p++) {
            arms += (a[p] == NONE ? 0 : world.arms[p]) - (b[p] == NONE ? 0 : world.arms[p]);
        }
        if (arms != 0) {
            return arms < 0;
        }
        for (int p = 0; p < a.length; p++) {
            if (a[p] != b[p]) {
                return (a[p] == NONE ? 99 : a[p]) < (b[p] == NONE ? 99 : b[p]);
            }
        }
        return false;
    }

    int leave(int what) {
        if (no(what, 2)) {
            return OUTSIDE;
        }
        int best = NONE;
        int much = NONE;
        for (int t = world.towers.length - 1; t >= 0; t--) {
            World w = world.twin();
            w.wound[t] = 0;
            if (best == NONE || w.slope()[0] <= much) {
                best = t;
                much = w.slope()[0];
            }
        }
        return what == 0 ? best : much;
    }

    int share(int x, int c) {
        if (c != NONE && no(c, world.ground.length)) {
            return UNKNOWN;
        }
        if (no(x, 1000)) {
            return OUTSIDE;
        }
        int all = 0;
        for (int i = 0; i < world.ground.length; i++) {
            all += world.depth(i) >= 1 ? 0 : world.ground[i];
        }
        int left = x;
        int own = 0;
        for (int i = 0; i < world.ground.length; i++) {
            int part = world.depth(i) >= 1 || all == 0 ? 0 : x * world.ground[i] / all;
            left -= part;
            own = i == c ? part : own;
        }
        return c == NONE ? left : own;
    }

    int calm(int n, int q) {
        if (no(n, 61) || no(q, 101)) {
            return OUTSIDE;
        }
        java.math.BigInteger odds = java.math.BigInteger.valueOf(1000000000);
        for (int i = 0; i < n; i++) {
            odds = odds.multiply(java.math.BigInteger.valueOf(q)).divide(java.math.BigInteger.valueOf(100));
        }
        return odds.intValueExact();
    }

    int mark(int c, int n, int v) {
        if (no(c, world.ground.length)) {
            return UNKNOWN;
        }
        if (n < 1 || n > 20 || no(v, 1000)) {
            return OUTSIDE;
        }
        return note(marks, 6, new int[] {c, n, v});
    }

    private static int note(List<int[]> list, int most, int[] what) {
        if (list.size() == most) {
            return FULL;
        }
        list.add(what);
        return list.size();
    }

    int look() {
        List<Integer> who = new ArrayList<>();
        for (int p = 0; p < world.arms.length; p++) {
            if (mayHaveSlept(p)) {
                who.add(p);
            }
        }
        int best = NONE;
        int least = who.size();
        for (int key = 1; key < 1000; key++) {
            int n = key % 100;
            if (n < 1 || n > 20 || key / 100 >= world.ground.length) {
                continue;
            }
            Map<Integer, Integer> parts = new HashMap<>();
            for (int p : who) {
                parts.merge(withSleeper(p).behind(n).sea(key / 100), 1, Integer::sum);
            }
            int greatest = parts.values().stream().mapToInt(i -> i).max().orElse(0);
            if (greatest < least) {
                least = greatest;
                best = key;
            }
        }
        return best;
    }

    int see(int w, int k, int v) {
        if (no(w, 100) || no(k, 10) || no(v, 100)) {
            return OUTSIDE;
        }
        return note(seen, 6, new int[] {w, k, v});
    }

    int write(int c, int sea) {
        if (no(c, world.ground.length)) {
            return UNKNOWN;
        }
        if (no(sea, 1000)) {
            return OUTSIDE;
        }
        return note(book, 15, new int[] {c, sea});
    }

    int tear() {
        int had = marks.size() + seen.size() + book.size();
        marks.clear();
        seen.clear();
        book.clear();
        return had;
    }

    int judge() {
        for (int i = 0; i < book.size(); i++) {
            if (world.sea(book.get(i)[0]) != book.get(i)[1]) {
                return i;
            }
        }
        return NONE;
    }

    int seed(int v) {
        if (v < 0) {
            return OUTSIDE;
        }
        int was = (int) seed;
        seed = v;
        return was;
    }

    int keep(int i) {
        if (no(i, 2)) {
            return UNKNOWN;
        }
        images.put(i, world.twin());
        imageSeeds.put(i, seed);
        undo.clear();
        return 1;
    }

    int goBack(int i) {
        if (no(i, 2)) {
            return UNKNOWN;
        }
        if (!images.containsKey(i)) {
            return NOT;
        }
        world = images.get(i).twin();
        seed = imageSeeds.get(i);
        undo.clear();
        return 1;
    }
}
