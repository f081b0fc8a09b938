import java.util.Arrays;

/**
 * A coast whose sea is wound up by hand, in towers. The document (DOC.md) says what each call answers;
 * the words in capitals in the comments here are its words.
 */
public final class GurdyTide {
    public static final int NONE = -1, UNKNOWN = -1000000001, OUTSIDE = -1000000002, NOT = -1000000003, FULL = -1000000004;

    private static final int MOST_LETTERS = 240;
    private static final int MOST_CELLS = 10;
    private static final int MOST_TOWERS = 6;
    private static final int MOST_PLAYERS = 6;
    private static final int MOST_BOATS = 4;
    private static final int MOST_GROUND = 60;
    private static final int MOST_FALL = 20;
    private static final int MOST_ARM = 9;
    private static final int MOST_DRAUGHT = 30;
    private static final int MOST_WOUND = 99;
    private static final int MOST_TIRED = 99;
    private static final int MOST_SEA = 999;
    private static final int MOST_SEED = 2147483647;
    private static final int MOST_DEPTH_ASKED = 99;
    private static final int MOST_PENCE = 999;
    private static final int MOST_HOURS_DONE = 60;
    private static final int MOST_HOURS_TRIED = 100;
    private static final int MOST_HOURS_SAILED = 200;
    private static final int MOST_HOURS_PLANNED = 20;
    private static final int LAST_HOUR = 9000;
    private static final int MOST_MARKS = 6;
    private static final int MOST_SEEN = 6;
    private static final int MOST_FAR = 9;
    private static final int MOST_ENTRIES = 15;
    private static final int MOST_UNDONE = 16;
    private static final int IMAGES = 2;
    private static final int MOST_CALM_DAYS = 60;
    private static final int HUNDRED = 100;
    private static final int BILLION = 1000000000;

    private final Reader reader = new Reader();
    private Coast coast = new Coast();
    private Coast spare = new Coast();
    private final State now = new State();
    private final State trial = new State();
    private final Past past = new Past();
    private final Image[] images = new Image[IMAGES];
    private final Draws draws = new Draws();
    private final Notes notes = new Notes();
    private final Plan plan = new Plan();
    private final Sleepers sleepers = new Sleepers();
    private int faultAt = NONE;

    public GurdyTide() {
        for (int i = 0; i < IMAGES; i++) {
            images[i] = new Image();
        }
    }

    // ---- the coast

    public int feed(int letter) {
        if (!within(letter, 0, 255)) {
            return OUTSIDE;
        }
        return reader.add(letter);
    }

    public int coast() {
        int kind = reader.readInto(spare);
        faultAt = reader.faultPlace();
        if (kind != Reader.NO_FAULT) {
            return -10 - kind;
        }
        Coast old = coast;
        coast = spare;
        spare = old;
        now.begin(coast);
        past.forget();
        notes.clear();
        for (int i = 0; i < IMAGES; i++) {
            images[i].kept = false;
        }
        return coast.cells;
    }

    public int fault() {
        return faultAt;
    }

    public int told(int what) {
        switch (what) {
            case 0: return coast.cells;
            case 1: return coast.towers;
            case 2: return coast.players;
            case 3: return coast.boats;
            case 4: return reader.letters();
            case 5: return now.hours;
            case 6: return now.slope(coast);
            case 7: return now.steepest(coast);
            case 8: return now.wet(coast);
            case 9: return now.aground(coast);
            case 10: return now.arrived(coast);
            case 11: return now.sitting(coast);
            case 12: return now.asleep;
            case 13: return notes.marks;
            case 14: return sleepers.fitting(coast, now, notes, trial);
            case 15: return notes.seen;
            case 16: return notes.guts();
            case 17: return notes.entries;
            case 18: return past.count;
            default: return OUTSIDE;
        }
    }

    public int cell(int c, int what) {
        if (!coast.hasCell(c)) {
            return UNKNOWN;
        }
        switch (what) {
            case 0: return coast.ground[c];
            case 1: return now.seaAt(coast, c);
            case 2: return now.depthAt(coast, c);
            case 3: return now.strongest(coast, c);
            default: return OUTSIDE;
        }
    }

    public int tower(int t, int what) {
        if (!coast.hasTower(t)) {
            return UNKNOWN;
        }
        switch (what) {
            case 0: return coast.towerCell[t];
            case 1: return coast.fall[t];
            case 2: return now.wound[t];
            case 3: return now.sitterAt(coast, t);
            default: return OUTSIDE;
        }
    }

    public int player(int p, int what) {
        if (!coast.hasPlayer(p)) {
            return UNKNOWN;
        }
        switch (what) {
            case 0: return coast.arm[p];
            case 1: return now.tired[p];
            case 2: return now.seat[p];
            case 3: return now.sleeps(p) ? 1 : 0;
            default: return OUTSIDE;
        }
    }

    public int boat(int b, int what) {
        if (!coast.hasBoat(b)) {
            return UNKNOWN;
        }
        switch (what) {
            case 0: return coast.draught[b];
            case 1: return now.place[b];
            case 2: return coast.from[b];
            case 3: return coast.to[b];
            default: return OUTSIDE;
        }
    }

    // ---- what is done

    public int hour(int n) {
        int refusal = refusalOfHours(n);
        if (refusal != 0) {
            return refusal;
        }
        past.remember(now);
        for (int i = 0; i < n; i++) {
            now.passHour(coast);
        }
        return now.hours;
    }

    public int sit(int p, int t) {
        if (!coast.hasPlayer(p) || !coast.hasTower(t)) {
            return UNKNOWN;
        }
        if (now.sitterAt(coast, t) != NONE) {
            return NOT;
        }
        past.remember(now);
        int was = now.seat[p];
        now.seat[p] = t;
        return was;
    }

    public int rest(int p) {
        if (!coast.hasPlayer(p)) {
            return UNKNOWN;
        }
        int was = now.seat[p];
        if (was == NONE) {
            return NOT;
        }
        past.remember(now);
        now.seat[p] = NONE;
        return was;
    }

    public int sleep(int p, boolean is) {
        if (!coast.hasPlayer(p)) {
            return UNKNOWN;
        }
        past.remember(now);
        int was = now.sleeps(p) ? 1 : 0;
        now.setAsleep(p, is);
        return was;
    }

    public int turn(int t, int n) {
        if (!coast.hasTower(t)) {
            return UNKNOWN;
        }
        if (!within(n, 0, MOST_WOUND)) {
            return OUTSIDE;
        }
        past.remember(now);
        int was = now.wound[t];
        now.wound[t] = n;
        return was;
    }

    public int send(int b) {
        if (!coast.hasBoat(b)) {
            return UNKNOWN;
        }
        past.remember(now);
        int was = now.place[b];
        now.place[b] = coast.from[b];
        return was;
    }

    public int drift(int n) {
        int refusal = refusalOfHours(n);
        if (refusal != 0) {
            return refusal;
        }
        past.remember(now);
        for (int i = 0; i < n; i++) {
            draws.stir(coast, now);
            now.passHour(coast);
        }
        return now.hours;
    }

    public int undo() {
        if (past.count == 0) {
            return NOT;
        }
        past.recall(now);
        return past.count;
    }

    // ---- tried

    public int sea(int c, int n, int what) {
        if (!coast.hasCell(c)) {
            return UNKNOWN;
        }
        if (!within(n, 0, MOST_HOURS_TRIED) || !within(what, 0, 1)) {
            return OUTSIDE;
        }
        trial.copy(now);
        for (int i = 0; i < n; i++) {
            trial.wind(coast);
        }
        return what == 0 ? trial.seaAt(coast, c) : trial.depthAt(coast, c);
    }

    public int deepest(int c, int n, int what) {
        if (!coast.hasCell(c)) {
            return UNKNOWN;
        }
        if (!within(n, 0, MOST_HOURS_TRIED) || !within(what, 0, 1)) {
            return OUTSIDE;
        }
        trial.copy(now);
        int when = 0;
        int most = trial.depthAt(coast, c);
        for (int i = 1; i <= n; i++) {
            trial.wind(coast);
            int depth = trial.depthAt(coast, c);
            if (depth > most) {
                most = depth;
                when = i;
            }
        }
        return what == 0 ? when : most;
    }

    public int comes(int b) {
        if (!coast.hasBoat(b)) {
            return UNKNOWN;
        }
        trial.copy(now);
        for (int i = 0; i <= MOST_HOURS_SAILED; i++) {
            if (trial.place[b] == coast.to[b]) {
                return i;
            }
            trial.wind(coast);
            trial.sail(coast, b);
        }
        return NONE;
    }

    public int seats(int c, int d, int n, int p) {
        if (!coast.hasCell(c) || p != NONE && !coast.hasPlayer(p)) {
            return UNKNOWN;
        }
        if (!within(d, 0, MOST_DEPTH_ASKED) || !within(n, 1, MOST_HOURS_PLANNED)) {
            return OUTSIDE;
        }
        int size = plan.search(coast, now, c, d, n);
        return p == NONE || size == NONE ? size : plan.best[p];
    }

    public int leave(int what) {
        if (!within(what, 0, 1)) {
            return OUTSIDE;
        }
        int best = NONE;
        int least = NONE;
        for (int t = 0; t < coast.towers; t++) {
            trial.copy(now);
            trial.wound[t] = 0;
            int slope = trial.slope(coast);
            if (best == NONE || slope < least) {
                best = t;
                least = slope;
            }
        }
        return what == 0 ? best : least;
    }

    public int share(int x, int c) {
        if (c != NONE && !coast.hasCell(c)) {
            return UNKNOWN;
        }
        if (!within(x, 0, MOST_PENCE)) {
            return OUTSIDE;
        }
        int dry = now.dryGround(coast);
        if (c != NONE) {
            return shareOf(c, x, dry);
        }
        int left = x;
        for (int i = 0; i < coast.cells; i++) {
            left -= shareOf(i, x, dry);
        }
        return left;
    }

    public int calm(int n, int q) {
        if (!within(n, 0, MOST_CALM_DAYS) || !within(q, 0, HUNDRED)) {
            return OUTSIDE;
        }
        long odds = BILLION;
        for (int i = 0; i < n; i++) {
            odds = odds * q / HUNDRED;
        }
        return (int) odds;
    }

    // ---- what is seen

    public int mark(int c, int n, int v) {
        if (!coast.hasCell(c)) {
            return UNKNOWN;
        }
        if (!within(n, 1, MOST_HOURS_PLANNED) || !within(v, 0, MOST_SEA)) {
            return OUTSIDE;
        }
        return notes.addMark(c, n, v);
    }

    public int look() {
        int slept = sleepers.fitting(coast, now, notes, trial);
        return sleepers.bestMark(slept, coast, now, trial);
    }

    public int see(int w, int k, int v) {
        if (!within(w, 0, MOST_WOUND) || !within(k, 0, MOST_FAR) || !within(v, 0, MOST_WOUND)) {
            return OUTSIDE;
        }
        return notes.addSeen(w, k, v);
    }

    public int write(int c, int sea) {
        if (!coast.hasCell(c)) {
            return UNKNOWN;
        }
        if (!within(sea, 0, MOST_SEA)) {
            return OUTSIDE;
        }
        return notes.addEntry(c, sea);
    }

    public int tear() {
        int had = notes.marks + notes.seen + notes.entries;
        notes.clear();
        return had;
    }

    public int judge() {
        return notes.firstWrong(coast, now);
    }

    // ---- draws, images

    public int seed(int v) {
        if (!within(v, 0, MOST_SEED)) {
            return OUTSIDE;
        }
        int was = draws.seed;
        draws.seed = v;
        return was;
    }

    public int keep(int i) {
        if (!within(i, 0, IMAGES - 1)) {
            return UNKNOWN;
        }
        images[i].state.copy(now);
        images[i].seed = draws.seed;
        images[i].kept = true;
        past.forget();
        return 1;
    }

    public int goBack(int i) {
        if (!within(i, 0, IMAGES - 1)) {
            return UNKNOWN;
        }
        if (!images[i].kept) {
            return NOT;
        }
        now.copy(images[i].state);
        draws.seed = images[i].seed;
        past.forget();
        return 1;
    }

    // ---- what the calls above share

    private static boolean within(int number, int least, int most) {
        return number >= least && number <= most;
    }

    /** Why n HOURS cannot pass now; 0 if they can. */
    private int refusalOfHours(int n) {
        if (!within(n, 1, MOST_HOURS_DONE)) {
            return OUTSIDE;
        }
        if (coast.cells == 0) {
            return NOT;
        }
        return now.hours > LAST_HOUR ? FULL : 0;
    }

    private int shareOf(int c, int pence, int dry) {
        if (dry <= 0 || now.depthAt(coast, c) > 0) {
            return 0;
        }
        return pence * coast.ground[c] / dry;
    }

    /** What the text told, and what no hour changes. */
    private static final class Coast {
        int cells;
        int towers;
        int players;
        int boats;
        final int[] ground = new int[MOST_CELLS];
        final int[] towerCell = new int[MOST_TOWERS];
        final int[] fall = new int[MOST_TOWERS];
        final int[] arm = new int[MOST_PLAYERS];
        final int[] draught = new int[MOST_BOATS];
        final int[] from = new int[MOST_BOATS];
        final int[] to = new int[MOST_BOATS];

        void clear() {
            cells = 0;
            towers = 0;
            players = 0;
            boats = 0;
        }

        boolean hasCell(int c) {
            return c >= 0 && c < cells;
        }

        boolean hasTower(int t) {
            return t >= 0 && t < towers;
        }

        boolean hasPlayer(int p) {
            return p >= 0 && p < players;
        }

        boolean hasBoat(int b) {
            return b >= 0 && b < boats;
        }

        /** What TOWER t bears at CELL c when it is WOUND to this. */
        int bears(int t, int wound, int c) {
            return Math.max(0, wound - fall[t] * Math.abs(c - towerCell[t]));
        }
    }

    /** THE TEXT, read from left to right: the first fault that is met is the one that counts. */
    private static final class Reader {
        static final int NO_FAULT = 0;
        static final int CANNOT_STAND = 1;
        static final int BAD_NUMBER = 2;
        static final int TOO_MANY = 3;
        static final int MOST_FIGURES = 3;

        private final int[] text = new int[MOST_LETTERS];
        private int length;
        private int at;
        private int kind;
        private int place = NONE;

        int letters() {
            return length;
        }

        int faultPlace() {
            return place;
        }

        int add(int letter) {
            if (length >= MOST_LETTERS) {
                return FULL;
            }
            text[length] = letter;
            length++;
            return length;
        }

        /** Reads all of THE TEXT, which is empty then: the number of its fault. */
        int readInto(Coast coast) {
            at = 0;
            kind = NO_FAULT;
            place = NONE;
            coast.clear();
            if (moreComes()) {
                readCells(coast);
                // no clause has fewer than one letter, so this bound is never what ends the loop
                for (int i = 0; i < MOST_LETTERS && kind == NO_FAULT && moreComes(); i++) {
                    readClause(coast);
                }
            }
            length = 0;
            return kind;
        }

        private void readCells(Coast coast) {
            takeSign('c');
            coast.ground[0] = takeNumber(0, MOST_GROUND);
            coast.cells = 1;
            for (int i = 1; i < MOST_CELLS && nextIs(','); i++) {
                takeSign(',');
                coast.ground[i] = takeNumber(0, MOST_GROUND);
                coast.cells = i + 1;
            }
            if (coast.cells < 2) {
                fail(CANNOT_STAND, at);
            }
            takeSign(';');
        }

        private void readClause(Coast coast) {
            switch (text[at]) {
                case 't':
                    readTower(coast);
                    break;
                case 'p':
                    readPlayer(coast);
                    break;
                case 'b':
                    readBoat(coast);
                    break;
                case 'c':
                    fail(TOO_MANY, at);
                    break;
                default:
                    fail(CANNOT_STAND, at);
                    break;
            }
        }

        private void readTower(Coast coast) {
            int t = coast.towers;
            if (t >= MOST_TOWERS) {
                fail(TOO_MANY, at);
                return;
            }
            takeSign('t');
            coast.towerCell[t] = takeNumber(0, coast.cells - 1);
            coast.fall[t] = takeNumber(1, MOST_FALL);
            takeSign(';');
            coast.towers = t + 1;
        }

        private void readPlayer(Coast coast) {
            int p = coast.players;
            if (p >= MOST_PLAYERS) {
                fail(TOO_MANY, at);
                return;
            }
            takeSign('p');
            coast.arm[p] = takeNumber(1, MOST_ARM);
            takeSign(';');
            coast.players = p + 1;
        }

        private void readBoat(Coast coast) {
            int b = coast.boats;
            if (b >= MOST_BOATS) {
                fail(TOO_MANY, at);
                return;
            }
            takeSign('b');
            coast.draught[b] = takeNumber(1, MOST_DRAUGHT);
            coast.from[b] = takeNumber(0, coast.cells - 1);
            coast.to[b] = takeNumber(0, coast.cells - 1);
            takeSign(';');
            coast.boats = b + 1;
        }

        /** Whether a letter that is no blank comes; at is there then, or at the end. */
        private boolean moreComes() {
            while (at < length && text[at] == ' ') {
                at++;
            }
            return at < length;
        }

        private boolean nextIs(int sign) {
            return moreComes() && text[at] == sign;
        }

        private void takeSign(int sign) {
            if (nextIs(sign)) {
                at++;
            } else {
                fail(CANNOT_STAND, at);
            }
        }

        private static boolean isFigure(int letter) {
            return letter >= '0' && letter <= '9';
        }

        /** The next NUMBER; behind a fault any number, as the coast is thrown away then. */
        private int takeNumber(int least, int most) {
            moreComes();
            int first = at;
            int value = 0;
            while (at < length && isFigure(text[at])) {
                // the figures beyond the third are a fault already, and must not run over
                if (at - first < MOST_FIGURES) {
                    value = value * 10 + text[at] - '0';
                }
                at++;
            }
            if (at == first) {
                fail(CANNOT_STAND, at);
            } else if (at - first > MOST_FIGURES || value < least || value > most) {
                fail(BAD_NUMBER, first);
            }
            return value;
        }

        private void fail(int number, int where) {
            if (kind == NO_FAULT) {
                kind = number;
                place = where;
            }
        }
    }

    /** All of section 2: what hours and hands change. */
    private static final class State {
        int hours;
        int asleep;
        final int[] wound = new int[MOST_TOWERS];
        final int[] seat = new int[MOST_PLAYERS];
        final int[] tired = new int[MOST_PLAYERS];
        final int[] place = new int[MOST_BOATS];

        void begin(Coast coast) {
            hours = 0;
            asleep = 0;
            Arrays.fill(wound, 0);
            Arrays.fill(seat, NONE);
            Arrays.fill(tired, 0);
            for (int b = 0; b < coast.boats; b++) {
                place[b] = coast.from[b];
            }
        }

        void copy(State other) {
            hours = other.hours;
            asleep = other.asleep;
            System.arraycopy(other.wound, 0, wound, 0, MOST_TOWERS);
            System.arraycopy(other.seat, 0, seat, 0, MOST_PLAYERS);
            System.arraycopy(other.tired, 0, tired, 0, MOST_PLAYERS);
            System.arraycopy(other.place, 0, place, 0, MOST_BOATS);
        }

        boolean sleeps(int p) {
            return (asleep >> p & 1) == 1;
        }

        void setAsleep(int p, boolean is) {
            asleep = is ? asleep | 1 << p : asleep & ~(1 << p);
        }

        int sitterAt(Coast coast, int t) {
            for (int p = 0; p < coast.players; p++) {
                if (seat[p] == t) {
                    return p;
                }
            }
            return NONE;
        }

        int sitting(Coast coast) {
            int set = 0;
            for (int p = 0; p < coast.players; p++) {
                if (seat[p] != NONE) {
                    set |= 1 << p;
                }
            }
            return set;
        }

        void passHour(Coast coast) {
            wind(coast);
            for (int b = 0; b < coast.boats; b++) {
                sail(coast, b);
            }
            hours++;
        }

        /** The players' and towers' part of an HOUR: SEA hangs on no more than this. */
        void wind(Coast coast) {
            int held = 0;
            for (int p = 0; p < coast.players; p++) {
                int t = seat[p];
                if (coast.hasTower(t) && !sleeps(p)) {
                    wound[t] = woundMore(wound[t], coast.arm[p], tired[p]);
                    tired[p] = Math.min(MOST_TIRED, tired[p] + 1);
                    held |= 1 << t;
                } else {
                    tired[p] = Math.max(0, tired[p] - 2);
                }
            }
            for (int t = 0; t < coast.towers; t++) {
                if ((held >> t & 1) == 0) {
                    wound[t] = Math.max(0, wound[t] - 3);
                }
            }
        }

        static int woundMore(int wound, int arm, int tired) {
            return Math.min(MOST_WOUND, wound + Math.max(0, arm - tired / 5));
        }

        /** The part of an HOUR that BOAT b has. */
        void sail(Coast coast, int b) {
            int here = place[b];
            if (here == coast.to[b]) {
                return;
            }
            int next = here < coast.to[b] ? here + 1 : here - 1;
            if (Math.min(depthAt(coast, here), depthAt(coast, next)) >= coast.draught[b]) {
                place[b] = next;
            }
        }

        int aground(Coast coast) {
            int set = 0;
            for (int b = 0; b < coast.boats; b++) {
                if (depthAt(coast, place[b]) < coast.draught[b]) {
                    set |= 1 << b;
                }
            }
            return set;
        }

        int arrived(Coast coast) {
            int set = 0;
            for (int b = 0; b < coast.boats; b++) {
                if (place[b] == coast.to[b]) {
                    set |= 1 << b;
                }
            }
            return set;
        }

        int seaAt(Coast coast, int c) {
            int sum = 0;
            for (int t = 0; t < coast.towers; t++) {
                sum += coast.bears(t, wound[t], c);
            }
            return sum;
        }

        int depthAt(Coast coast, int c) {
            return Math.max(0, seaAt(coast, c) - coast.ground[c]);
        }

        int wet(Coast coast) {
            int set = 0;
            for (int c = 0; c < coast.cells; c++) {
                if (depthAt(coast, c) > 0) {
                    set |= 1 << c;
                }
            }
            return set;
        }

        /** GROUND of all CELLS that are not WET, together. */
        int dryGround(Coast coast) {
            int sum = 0;
            for (int c = 0; c < coast.cells; c++) {
                if (depthAt(coast, c) == 0) {
                    sum += coast.ground[c];
                }
            }
            return sum;
        }

        int strongest(Coast coast, int c) {
            int best = NONE;
            int most = 0;
            for (int t = 0; t < coast.towers; t++) {
                int borne = coast.bears(t, wound[t], c);
                if (borne > most) {
                    most = borne;
                    best = t;
                }
            }
            return best;
        }

        /** The lesser CELL of SLOPE; NONE without a COAST. */
        int steepest(Coast coast) {
            int best = NONE;
            int most = NONE;
            for (int c = 0; c + 1 < coast.cells; c++) {
                int unlike = unlikeness(coast, c);
                if (unlike > most) {
                    most = unlike;
                    best = c;
                }
            }
            return best;
        }

        int slope(Coast coast) {
            int c = steepest(coast);
            return c == NONE ? 0 : unlikeness(coast, c);
        }

        private int unlikeness(Coast coast, int c) {
            return Math.abs(seaAt(coast, c) - seaAt(coast, c + 1));
        }
    }

    /** What can be undone: a ring, in which the newest takes the place of the oldest. */
    private static final class Past {
        private final State[] ring = new State[MOST_UNDONE];
        private int next;
        int count;

        Past() {
            for (int i = 0; i < MOST_UNDONE; i++) {
                ring[i] = new State();
            }
        }

        void remember(State now) {
            ring[next].copy(now);
            next = (next + 1) % MOST_UNDONE;
            count = Math.min(MOST_UNDONE, count + 1);
        }

        /** Only if count is above 0. */
        void recall(State now) {
            next = (next + MOST_UNDONE - 1) % MOST_UNDONE;
            count--;
            now.copy(ring[next]);
        }

        void forget() {
            count = 0;
        }
    }

    private static final class Image {
        final State state = new State();
        int seed;
        boolean kept;
    }

    /** THE SEED, and what is drawn by it. */
    private static final class Draws {
        int seed;

        /** A DRAW of n; 0 if there are none to draw of. */
        private int next(int n) {
            // the bits of MOST_SEED are what is left over by 2 to the 31
            seed = (int) ((seed * 1103515245L + 12345L) & MOST_SEED);
            return n <= 0 ? 0 : seed / 65536 % n;
        }

        /** What is drawn ahead of an HOUR. */
        void stir(Coast coast, State now) {
            if (coast.players == 0) {
                return;
            }
            int p = next(coast.players);
            switch (next(6)) {
                case 0:
                    now.setAsleep(p, true);
                    break;
                case 1:
                    now.setAsleep(p, false);
                    break;
                case 2:
                    now.seat[p] = NONE;
                    break;
                case 3:
                    sitByDraw(coast, now, p);
                    break;
                default:
                    break;
            }
        }

        private void sitByDraw(Coast coast, State now, int p) {
            if (coast.towers == 0) {
                return;
            }
            int t = next(coast.towers);
            if (now.sitterAt(coast, t) == NONE) {
                now.seat[p] = t;
            }
        }
    }

    /** MARKS, what is SEEN, THE BOOK. */
    private static final class Notes {
        int marks;
        int seen;
        int entries;
        private final int[] markCell = new int[MOST_MARKS];
        private final int[] markHours = new int[MOST_MARKS];
        private final int[] markSea = new int[MOST_MARKS];
        private final int[] seenWound = new int[MOST_SEEN];
        private final int[] seenFar = new int[MOST_SEEN];
        private final int[] seenBorne = new int[MOST_SEEN];
        private final int[] entryCell = new int[MOST_ENTRIES];
        private final int[] entrySea = new int[MOST_ENTRIES];

        void clear() {
            marks = 0;
            seen = 0;
            entries = 0;
        }

        int addMark(int c, int n, int v) {
            if (marks >= MOST_MARKS) {
                return FULL;
            }
            markCell[marks] = c;
            markHours[marks] = n;
            markSea[marks] = v;
            marks++;
            return marks;
        }

        int addSeen(int w, int k, int v) {
            if (seen >= MOST_SEEN) {
                return FULL;
            }
            seenWound[seen] = w;
            seenFar[seen] = k;
            seenBorne[seen] = v;
            seen++;
            return seen;
        }

        int addEntry(int c, int sea) {
            if (entries >= MOST_ENTRIES) {
                return FULL;
            }
            entryCell[entries] = c;
            entrySea[entries] = sea;
            entries++;
            return entries;
        }

        /** Behind how many HOURS the last MARK is; 0 if there are none. */
        int lastMark() {
            int last = 0;
            for (int i = 0; i < marks; i++) {
                last = Math.max(last, markHours[i]);
            }
            return last;
        }

        /** Whether all MARKS behind n HOURS are so when it is like this then. */
        boolean marksAreSo(int n, Coast coast, State then) {
            for (int i = 0; i < marks; i++) {
                if (markHours[i] == n && then.seaAt(coast, markCell[i]) != markSea[i]) {
                    return false;
                }
            }
            return true;
        }

        int guts() {
            int set = 0;
            for (int g = 1; g <= MOST_FALL; g++) {
                if (seenIsSo(g)) {
                    set |= 1 << g;
                }
            }
            return set;
        }

        private boolean seenIsSo(int g) {
            for (int i = 0; i < seen; i++) {
                if (Math.max(0, seenWound[i] - g * seenFar[i]) != seenBorne[i]) {
                    return false;
                }
            }
            return true;
        }

        int firstWrong(Coast coast, State now) {
            for (int i = 0; i < entries; i++) {
                if (now.seaAt(coast, entryCell[i]) != entrySea[i]) {
                    return i;
                }
            }
            return NONE;
        }
    }

    /** Who slept, and which mark would tell most about it. */
    private static final class Sleepers {
        private final int[][] seas = new int[MOST_PLAYERS][MOST_CELLS * MOST_HOURS_PLANNED];

        /** SLEPT. */
        int fitting(Coast coast, State now, Notes notes, State trial) {
            int set = 0;
            for (int p = 0; p < coast.players; p++) {
                if (now.seat[p] != NONE && fits(p, coast, now, notes, trial)) {
                    set |= 1 << p;
                }
            }
            return set;
        }

        private boolean fits(int p, Coast coast, State now, Notes notes, State trial) {
            beginAsleep(p, now, trial);
            int last = notes.lastMark();
            for (int n = 1; n <= last; n++) {
                trial.wind(coast);
                if (!notes.marksAreSo(n, coast, trial)) {
                    return false;
                }
            }
            return true;
        }

        private void beginAsleep(int p, State now, State trial) {
            trial.copy(now);
            trial.asleep = 1 << p;
        }

        /** LOOK. */
        int bestMark(int slept, Coast coast, State now, State trial) {
            int count = 0;
            for (int p = 0; p < coast.players; p++) {
                if ((slept >> p & 1) == 1) {
                    beginAsleep(p, now, trial);
                    noteSeas(count, coast, trial);
                    count++;
                }
            }
            int best = NONE;
            int least = count;
            for (int i = 0; i < coast.cells * MOST_HOURS_PLANNED; i++) {
                int alike = mostAlike(count, i);
                if (alike < least) {
                    least = alike;
                    best = i / MOST_HOURS_PLANNED * HUNDRED + i % MOST_HOURS_PLANNED + 1;
                }
            }
            return best;
        }

        private void noteSeas(int row, Coast coast, State trial) {
            for (int n = 0; n < MOST_HOURS_PLANNED; n++) {
                trial.wind(coast);
                for (int c = 0; c < coast.cells; c++) {
                    seas[row][c * MOST_HOURS_PLANNED + n] = trial.seaAt(coast, c);
                }
            }
        }

        /** How many of the first rows are alike at i: of the greatest such part. */
        private int mostAlike(int rows, int i) {
            int most = 0;
            for (int a = 0; a < rows; a++) {
                int alike = 0;
                for (int b = 0; b < rows; b++) {
                    if (seas[a][i] == seas[b][i]) {
                        alike++;
                    }
                }
                most = Math.max(most, alike);
            }
            return most;
        }
    }

    /** SEATS: who must sit where. */
    private static final class Plan {
        /** More than all ARMS together: no plan has been found. */
        private static final int NO_ARMS_YET = MOST_PLAYERS * MOST_ARM + 1;

        final int[] best = new int[MOST_PLAYERS];
        private final int[] tried = new int[MOST_PLAYERS];
        private final int[][] gain = new int[MOST_PLAYERS][MOST_TOWERS];
        private final int[][] mostGain = new int[MOST_PLAYERS + 1][MOST_PLAYERS + 1];
        private int leastArms;
        private int need;

        /** How many must sit; best tells where. NONE: by no plan. */
        int search(Coast coast, State now, int c, int d, int n) {
            // DEPTH is never below 0, so 0 needs nobody, however high the GROUND is
            need = d == 0 ? 0 : d + coast.ground[c] - seaIfAllRest(coast, now, c, n);
            noteGains(coast, now, c, n);
            leastArms = NO_ARMS_YET;
            int sizes = Math.min(coast.players, coast.towers);
            for (int size = 0; size <= sizes; size++) {
                seatFrom(this, coast, 0, 0, size, 0, 0);
                if (leastArms != NO_ARMS_YET) {
                    return size;
                }
            }
            return NONE;
        }

        private int seaIfAllRest(Coast coast, State now, int c, int n) {
            int sum = 0;
            for (int t = 0; t < coast.towers; t++) {
                sum += coast.bears(t, letDown(now.wound[t], n), c);
            }
            return sum;
        }

        private static int letDown(int wound, int n) {
            return Math.max(0, wound - 3 * n);
        }

        /** No player changes what another's tower bears, so each pair's part can be counted alone. */
        private void noteGains(Coast coast, State now, int c, int n) {
            Arrays.fill(mostGain[coast.players], 0);
            for (int p = coast.players - 1; p >= 0; p--) {
                int most = 0;
                for (int t = 0; t < coast.towers; t++) {
                    int alone = coast.bears(t, letDown(now.wound[t], n), c);
                    gain[p][t] = coast.bears(t, woundBy(coast, now, p, t, n), c) - alone;
                    most = Math.max(most, gain[p][t]);
                }
                noteMostGain(p, most);
            }
        }

        /** mostGain[p][k]: what k of the players from p on could gain, if each had the tower he is best at. */
        private void noteMostGain(int p, int most) {
            mostGain[p][0] = 0;
            for (int k = 1; k <= MOST_PLAYERS; k++) {
                mostGain[p][k] = Math.max(mostGain[p + 1][k], mostGain[p + 1][k - 1] + most);
            }
        }

        private static int woundBy(Coast coast, State now, int p, int t, int n) {
            if (now.sleeps(p)) {
                return letDown(now.wound[t], n);
            }
            int wound = now.wound[t];
            for (int i = 0; i < n; i++) {
                wound = State.woundMore(wound, coast.arm[p], Math.min(MOST_TIRED, now.tired[p] + i));
            }
            return wound;
        }

        /**
         * Tries all plans in which so many as are left of the players from p on sit. They come in the document's
         * order, so that a later one is better only if its arms are less. Nobody sits who gains nothing: without him
         * the plan would be smaller, and smaller ones have been tried.
         */
        private static void seatFrom(Plan plan, Coast coast, int p, int taken, int left, int arms, int gained) {
            if (arms >= plan.leastArms || gained + plan.mostGain[p][left] < plan.need) {
                return;
            }
            if (left == 0) {
                plan.take(p, arms);
                return;
            }
            if (p >= coast.players) {
                return;
            }
            for (int t = 0; t < coast.towers; t++) {
                if ((taken >> t & 1) == 0 && plan.gain[p][t] > 0) {
                    plan.tried[p] = t;
                    seatFrom(plan, coast, p + 1, taken | 1 << t, left - 1, arms + coast.arm[p], gained + plan.gain[p][t]);
                }
            }
            plan.tried[p] = NONE;
            seatFrom(plan, coast, p + 1, taken, left, arms, gained);
        }

        /** The plan in which the players ahead of p are as tried, and the others rest. */
        private void take(int p, int arms) {
            leastArms = arms;
            Arrays.fill(best, NONE);
            System.arraycopy(tried, 0, best, 0, p);
        }
    }
}
