import java.util.Arrays;

/** Bus lines brought to one length by humps in shared pockets; the promises stand in ../shared/DOC.md. */
public final class SnakedBus {
    public static final int NONE = -1, BAD = -2, NO = -3, FULL = -4;

    private static final int MOST_LINES = 6, MOST_RUNS = 8, MOST_POCKETS = 6, MOST_STATES = 5;
    private static final int MOST_LONG = 60, MOST_WIDE = 60, ALL_LINES = 63, MOST_TARGET = 999;
    // With its halves down to 1 it spans all lengths.
    private static final int HALF_WAY = 512;
    private static final int MOST_BYTES = 120, MOST_BYTE = 127, MOST_FIGURES = 3;
    private static final int LEFT = 0, RIGHT = 1;
    private static final int DEPTH = 0, SPACE = 1, CUT = 2, TOLERANCE = 3, TARGET = 4, PHASE = 5, NEAR = 6;
    private static final int SETTINGS = 7;
    private static final int[] LOWEST = {2, 1, 0, 0, 0, 0, 1};
    private static final int[] HIGHEST = {12, 4, 2, 20, 999, 6, 9};
    private static final int[] AT_FIRST = {6, 2, 0, 0, 0, 0, 4};
    private static final int LEAST_GAIN = 2, NEED_WITHOUT_GAIN = 1000;
    private static final int SHIFT = 100;
    private static final int FAULT_FROM = -10, ORDER_FROM = -1000;
    private static final long DIGEST_START = 2053L, DIGEST_FACTOR = 31L;

    private final Bus bus = new Bus();
    private final Bus trial = new Bus();
    private final Past past = new Past();
    private final Text text = new Text();
    private final Sharing byTarget = new Sharing();
    private final Sharing tried = new Sharing();
    private final Phasing phasing = new Phasing();
    private boolean planned = false;
    private int bads = 0;
    private int noes = 0;
    private int fulls = 0;

    public SnakedBus() {
    }

    // ---- lines and pockets

    public int line(int a) {
        return settled(draft().addLine(a));
    }

    public int goes(int l, int t, int a) {
        return settled(draft().addRun(l, t, a));
    }

    public int shortens(int l) {
        return settled(draft().dropRun(l));
    }

    public int pocket(int w, int touch) {
        return settled(draft().addPocket(w, touch));
    }

    public int widens(int p, int w) {
        return settled(draft().changeWide(p, w));
    }

    public int touches(int p, int v) {
        return settled(draft().changeTouch(p, v));
    }

    public int sets(int k, int v) {
        return settled(draft().changeSetting(k, v));
    }

    // ---- what is told

    public int of(int l, int what) {
        if (!bus.hasLine(l)) {
            return refused(BAD);
        }
        switch (what) {
            case 0: return bus.runsOf(l);
            case 1: return bus.baseOf(l);
            case 2: return bus.lackFor(bus.baseOf(l), bus.settingAt(TARGET));
            case 3: return bus.needFor(bus.baseOf(l), bus.settingAt(TARGET));
            case 4: return bus.reachOf(l);
            case 5: return bus.turnsOf(l, RIGHT);
            case 6: return bus.turnsOf(l, LEFT);
            default: return refused(BAD);
        }
    }

    public int run(int l, int i, int what) {
        if (!bus.hasRun(l, i)) {
            return refused(BAD);
        }
        switch (what) {
            case 0: return bus.longOf(l, i);
            case 1: return bus.turnAhead(l, i);
            case 2: return bus.bumpRoom(l, i);
            default: return refused(BAD);
        }
    }

    public int about(int p, int what) {
        if (!bus.hasPocket(p)) {
            return refused(BAD);
        }
        switch (what) {
            case 0: return bus.wideOf(p);
            case 1: return bus.presentAt(p);
            case 2: return bus.humpsOf(p);
            case 3: return plan().allFit() ? plan().freeOf(p) : NONE;
            default: return refused(BAD);
        }
    }

    public int setting(int k) {
        return within(k, 0, SETTINGS - 1) ? bus.settingAt(k) : refused(BAD);
    }

    public int count(int what) {
        switch (what) {
            case 0: return bus.lineCount();
            case 1: return bus.pocketCount();
            case 2: return bus.gain() + SHIFT;
            case 3: return plan().allFit() ? 1 : 0;
            case 4: return bus.longestBase();
            case 5: return bus.allHumps();
            case 6: return bus.allNeeds(bus.settingAt(TARGET));
            default: return refused(BAD);
        }
    }

    // ---- lengths

    public int draws(int l, int p) {
        if (!bus.hasLine(l) || !bus.hasPocket(p)) {
            return refused(BAD);
        }
        return plan().allFit() ? plan().drawnBy(l, p) : refused(NO);
    }

    public int length(int l) {
        if (!bus.hasLine(l)) {
            return refused(BAD);
        }
        if (!plan().allFit()) {
            return refused(NO);
        }
        int base = bus.baseOf(l);
        return base + bus.lackFor(base, bus.settingAt(TARGET));
    }

    public int blocked() {
        return plan().blockedLines();
    }

    public int can(int t) {
        if (!within(t, 0, MOST_TARGET)) {
            return refused(BAD);
        }
        return fitsBy(t) ? 1 : 0;
    }

    public int least() {
        // Needs only grow with the length, so no greater one can do what the longest base can't.
        int base = bus.longestBase();
        return fitsBy(base) ? base : NONE;
    }

    public int greatest() {
        int low = bus.longestBase();
        if (!fitsBy(low)) {
            return NONE;
        }
        for (int step = HALF_WAY; step > 0; step /= 2) {
            if (low + step <= MOST_TARGET && fitsBy(low + step)) {
                low += step;
            }
        }
        return low;
    }

    public int more() {
        if (plan().allFit()) {
            return refused(NO);
        }
        tried.look(bus, bus.settingAt(TARGET));
        for (int p = 0; p < bus.pocketCount(); p++) {
            if (tried.fitsWithOneMore(p)) {
                return p;
            }
        }
        return NONE;
    }

    public int bumps(int l) {
        return bus.hasLine(l) ? phasing.fewestFor(bus, l) : refused(BAD);
    }

    public int skew(int l, int i) {
        return bus.hasRun(l, i) ? bus.plainSkew(l, i) + SHIFT : refused(BAD);
    }

    // ---- texts

    public int type(int c) {
        if (!within(c, 0, MOST_BYTE)) {
            return refused(BAD);
        }
        return text.append(c) ? text.size() : refused(FULL);
    }

    public int clear() {
        int had = text.size();
        text.empty();
        return had;
    }

    public int does() {
        int fault = text.parse();
        if (fault != NONE) {
            return FAULT_FROM - fault;
        }
        int stopped = text.apply(draft());
        if (stopped != NONE) {
            return ORDER_FROM - stopped;
        }
        accept();
        return text.orderCount();
    }

    public int back() {
        if (!past.giveBack(bus)) {
            return refused(NO);
        }
        planned = false;
        return past.size();
    }

    public int told(int what) {
        switch (what) {
            case 0: return bads;
            case 1: return noes;
            case 2: return fulls;
            case 3: return text.size();
            case 4: return past.size();
            default: return refused(BAD);
        }
    }

    public long digest() {
        long h = DIGEST_START;
        for (int what = 0; what < 5; what++) {
            h = mixed(h, told(what));
        }
        for (int what = 0; what < 7; what++) {
            h = mixed(h, count(what));
        }
        for (int k = 0; k < SETTINGS; k++) {
            h = mixed(h, bus.settingAt(k));
        }
        for (int l = 0; l < bus.lineCount(); l++) {
            h = mixedLine(h, l);
        }
        for (int p = 0; p < bus.pocketCount(); p++) {
            for (int what = 0; what < 4; what++) {
                h = mixed(h, about(p, what));
            }
        }
        h = mixed(mixed(mixed(h, blocked()), least()), greatest());
        return plan().allFit() ? mixedHumps(h) : h;
    }

    private static long mixed(long h, int v) {
        return DIGEST_FACTOR * h + v;
    }

    private long mixedLine(long before, int l) {
        long h = before;
        for (int what = 0; what < 7; what++) {
            h = mixed(h, of(l, what));
        }
        for (int i = 0; i < bus.runsOf(l); i++) {
            for (int what = 0; what < 3; what++) {
                h = mixed(h, run(l, i, what));
            }
        }
        return mixed(h, bumps(l));
    }

    private long mixedHumps(long before) {
        long h = before;
        for (int l = 0; l < bus.lineCount(); l++) {
            for (int p = 0; p < bus.pocketCount(); p++) {
                h = mixed(h, plan().drawnBy(l, p));
            }
        }
        return h;
    }

    /** Changes are made on a copy, so that a refused one leaves nothing behind. */
    private Bus draft() {
        trial.takeFrom(bus);
        return trial;
    }

    private int settled(int answer) {
        if (answer < 0) {
            return refused(answer);
        }
        accept();
        return answer;
    }

    private void accept() {
        past.keep(bus);
        bus.takeFrom(trial);
        planned = false;
    }

    private int refused(int code) {
        if (code == BAD) {
            bads++;
        } else if (code == NO) {
            noes++;
        } else if (code == FULL) {
            fulls++;
        }
        return code;
    }

    private boolean fitsBy(int t) {
        tried.look(bus, t);
        return tried.fits();
    }

    /** The sharing by TARGET, worked out once for all questions between two changes. */
    private Sharing plan() {
        if (!planned) {
            byTarget.look(bus, bus.settingAt(TARGET));
            byTarget.findBlocked();
            for (int l = 0; l < bus.lineCount() && byTarget.allFit(); l++) {
                byTarget.drawLine(l);
            }
            planned = true;
        }
        return byTarget;
    }

    private static boolean within(int v, int low, int high) {
        return v >= low && v <= high;
    }

    private static boolean hasBit(int set, int bit) {
        return (set >> bit & 1) == 1;
    }

    private static int at(int[] row, int i) {
        return i >= 0 && i < row.length ? row[i] : 0;
    }

    private static void put(int[] row, int i, int v) {
        if (i >= 0 && i < row.length) {
            row[i] = v;
        }
    }

    /** Where item i of a row stands that shares one array with other rows, each that wide. */
    private static int cell(int row, int i, int width) {
        return i >= 0 && i < width ? row * width + i : NONE;
    }

    private static void copy(int[] from, int[] to) {
        System.arraycopy(from, 0, to, 0, Math.min(from.length, to.length));
    }

    /** All that a STATE holds: lines, pockets and settings. A change answers what its call answers. */
    private static final class Bus {
        private final int[] runs = new int[MOST_LINES];
        private final int[] longs = new int[MOST_LINES * MOST_RUNS];
        private final int[] turns = new int[MOST_LINES * MOST_RUNS];
        private final int[] wides = new int[MOST_POCKETS];
        private final int[] touching = new int[MOST_POCKETS];
        private final int[] chosen = new int[SETTINGS];
        private int lines = 0;
        private int pockets = 0;

        Bus() {
            copy(AT_FIRST, chosen);
        }

        void takeFrom(Bus other) {
            copy(other.runs, runs);
            copy(other.longs, longs);
            copy(other.turns, turns);
            copy(other.wides, wides);
            copy(other.touching, touching);
            copy(other.chosen, chosen);
            lines = other.lines;
            pockets = other.pockets;
        }

        int addLine(int a) {
            if (!within(a, 1, MOST_LONG)) {
                return BAD;
            }
            if (lines >= MOST_LINES) {
                return FULL;
            }
            put(runs, lines, 1);
            put(longs, cell(lines, 0, MOST_RUNS), a);
            put(turns, cell(lines, 0, MOST_RUNS), NONE);
            lines++;
            return lines - 1;
        }

        int addRun(int l, int t, int a) {
            if (!hasLine(l) || !within(t, LEFT, RIGHT) || !within(a, 1, MOST_LONG)) {
                return BAD;
            }
            int many = runsOf(l);
            if (many >= MOST_RUNS) {
                return FULL;
            }
            put(longs, cell(l, many, MOST_RUNS), a);
            put(turns, cell(l, many, MOST_RUNS), t);
            put(runs, l, many + 1);
            return many + 1;
        }

        int dropRun(int l) {
            if (!hasLine(l)) {
                return BAD;
            }
            int left = runsOf(l) - 1;
            if (left < 1) {
                return NO;
            }
            put(runs, l, left);
            return left;
        }

        int addPocket(int w, int touch) {
            if (!within(w, 1, MOST_WIDE) || !within(touch, 0, ALL_LINES)) {
                return BAD;
            }
            if (pockets >= MOST_POCKETS) {
                return FULL;
            }
            put(wides, pockets, w);
            put(touching, pockets, touch);
            pockets++;
            return pockets - 1;
        }

        int changeWide(int p, int w) {
            if (!hasPocket(p) || !within(w, 1, MOST_WIDE)) {
                return BAD;
            }
            int was = wideOf(p);
            put(wides, p, w);
            return was;
        }

        int changeTouch(int p, int v) {
            if (!hasPocket(p) || !within(v, 0, ALL_LINES)) {
                return BAD;
            }
            int was = at(touching, p);
            put(touching, p, v);
            return was;
        }

        int changeSetting(int k, int v) {
            if (!within(k, 0, SETTINGS - 1) || !within(v, at(LOWEST, k), at(HIGHEST, k))) {
                return BAD;
            }
            int was = at(chosen, k);
            put(chosen, k, v);
            return was;
        }

        boolean hasLine(int l) {
            return l >= 0 && l < lines;
        }

        boolean hasRun(int l, int i) {
            return hasLine(l) && i >= 0 && i < runsOf(l);
        }

        boolean hasPocket(int p) {
            return p >= 0 && p < pockets;
        }

        int lineCount() {
            return lines;
        }

        int pocketCount() {
            return pockets;
        }

        int settingAt(int k) {
            return at(chosen, k);
        }

        int runsOf(int l) {
            return at(runs, l);
        }

        int longOf(int l, int i) {
            return at(longs, cell(l, i, MOST_RUNS));
        }

        int turnAhead(int l, int i) {
            return at(turns, cell(l, i, MOST_RUNS));
        }

        int bumpRoom(int l, int i) {
            int near = at(chosen, NEAR);
            return near < 1 ? 0 : longOf(l, i) / near;
        }

        int turnsOf(int l, int side) {
            int many = 0;
            for (int i = 1; i < runsOf(l); i++) {
                if (turnAhead(l, i) == side) {
                    many++;
                }
            }
            return many;
        }

        int plainSkew(int l, int last) {
            int sum = 0;
            for (int i = 1; i <= last && i < runsOf(l); i++) {
                sum += turnAhead(l, i) == RIGHT ? 2 : -2;
            }
            return sum;
        }

        int baseOf(int l) {
            int sum = 0;
            for (int i = 0; i < runsOf(l); i++) {
                sum += longOf(l, i);
            }
            return Math.max(0, sum - at(chosen, CUT) * (runsOf(l) - 1));
        }

        int longestBase() {
            int longest = 0;
            for (int l = 0; l < lines; l++) {
                longest = Math.max(longest, baseOf(l));
            }
            return longest;
        }

        int lackFor(int base, int t) {
            int lack = Math.max(0, t - at(chosen, TOLERANCE) - base);
            return lack + (lack & 1);
        }

        int needFor(int base, int t) {
            int lack = lackFor(base, t);
            if (lack == 0) {
                return 0;
            }
            int gain = gain();
            return gain < LEAST_GAIN ? NEED_WITHOUT_GAIN : (lack + gain - 1) / gain;
        }

        int allNeeds(int t) {
            int sum = 0;
            for (int l = 0; l < lines; l++) {
                sum += needFor(baseOf(l), t);
            }
            return sum;
        }

        int gain() {
            return 2 * (at(chosen, DEPTH) - at(chosen, SPACE)) - 4 * at(chosen, CUT);
        }

        int wideOf(int p) {
            return at(wides, p);
        }

        /** A pocket may name lines that are yet to come; these are the ones that are there. */
        int presentAt(int p) {
            return at(touching, p) & ((1 << lines) - 1);
        }

        int reachOf(int l) {
            int set = 0;
            for (int p = 0; p < pockets; p++) {
                if (hasBit(at(touching, p), l)) {
                    set |= 1 << p;
                }
            }
            return set;
        }

        int humpsOf(int p) {
            int space = at(chosen, SPACE);
            return space < 1 || gain() < LEAST_GAIN ? 0 : (wideOf(p) + space) / (2 * space);
        }

        int allHumps() {
            int sum = 0;
            for (int p = 0; p < pockets; p++) {
                sum += humpsOf(p);
            }
            return sum;
        }
    }

    /** Who can draw how many humps where, by one length. */
    private static final class Sharing {
        // Of each set of lines, by its bits: what they need together, and the pockets that some of them touch.
        private final int[] needs = new int[1 << MOST_LINES];
        private final int[] reach = new int[1 << MOST_LINES];
        private final int[] rooms = new int[MOST_POCKETS];
        private final int[] drawn = new int[MOST_LINES * MOST_POCKETS];
        private int lines = 0;
        private int pockets = 0;
        private int tooLong = 0;
        private int inTheWay = 0;

        Sharing() {
        }

        void look(Bus bus, int t) {
            lines = bus.lineCount();
            pockets = bus.pocketCount();
            tooLong = 0;
            for (int l = 0; l < lines; l++) {
                int base = bus.baseOf(l);
                put(needs, 1 << l, bus.needFor(base, t));
                put(reach, 1 << l, bus.reachOf(l));
                if (base > t) {
                    tooLong |= 1 << l;
                }
            }
            for (int p = 0; p < pockets; p++) {
                put(rooms, p, bus.humpsOf(p));
            }
            joinSets();
        }

        private void joinSets() {
            for (int set = 1; set < 1 << lines; set++) {
                int others = set & (set - 1);
                int lowest = set ^ others;
                put(needs, set, at(needs, others) + at(needs, lowest));
                put(reach, set, at(reach, others) | at(reach, lowest));
            }
        }

        boolean fits() {
            return tooLong == 0 && crowd() == 0;
        }

        boolean fitsWithOneMore(int p) {
            int room = at(rooms, p);
            put(rooms, p, room + 1);
            boolean fit = fits();
            put(rooms, p, room);
            return fit;
        }

        void findBlocked() {
            inTheWay = tooLong != 0 ? tooLong : crowd();
        }

        /** For lines in their order, and if nobody is blocked; the rooms are then what is free. */
        void drawLine(int l) {
            int need = at(needs, 1 << l);
            for (int p = 0; p < pockets; p++) {
                boolean near = hasBit(at(reach, 1 << l), p);
                int most = near ? Math.min(need, mostFor(l, p)) : 0;
                put(drawn, cell(l, p, MOST_POCKETS), most);
                put(rooms, p, at(rooms, p) - most);
                need -= most;
            }
        }

        boolean allFit() {
            return inTheWay == 0;
        }

        int blockedLines() {
            return inTheWay;
        }

        int freeOf(int p) {
            return at(rooms, p);
        }

        int drawnBy(int l, int p) {
            return at(drawn, cell(l, p, MOST_POCKETS));
        }

        /**
         * The set of fewest lines, of like ones the least, that needs more than it can reach; 0 if there is none.
         * By Hall's theorem all can have their needs just if no set lacks room, so this answers for fits, too.
         */
        private int crowd() {
            int found = 0;
            int fewest = MOST_LINES + 1;
            for (int set = 1; set < 1 << lines; set++) {
                int size = Integer.bitCount(set);
                if (size < fewest && spare(set) < 0) {
                    found = set;
                    fewest = size;
                }
            }
            return found;
        }

        /** Humps within reach of the set beyond its needs. */
        private int spare(int set) {
            int left = -at(needs, set);
            for (int p = 0; p < pockets; p++) {
                if (hasBit(at(reach, set), p)) {
                    left += at(rooms, p);
                }
            }
            return left;
        }

        /** A hump taken here is lost to every set of later lines that reaches the pocket: none may run short. */
        private int mostFor(int l, int p) {
            int most = at(rooms, p);
            int step = 2 << l;
            for (int set = step; set < 1 << lines; set += step) {
                if (hasBit(at(reach, set), p)) {
                    most = Math.min(most, spare(set));
                }
            }
            return most;
        }
    }

    /** The fewest bumps that keep a line's two wires in phase. */
    private static final class Phasing {
        private static final int FARTHEST = MOST_RUNS - 1;
        private static final int TOO_MANY = 1000000;
        // By half the skew at the end of a run, FARTHEST added, the fewest bumps that lead there.
        private final int[] fewest = new int[2 * FARTHEST + 1];
        private final int[] next = new int[2 * FARTHEST + 1];

        Phasing() {
        }

        int fewestFor(Bus bus, int l) {
            Arrays.fill(fewest, TOO_MANY);
            put(fewest, FARTHEST, 0);
            for (int i = 0; i < bus.runsOf(l); i++) {
                Arrays.fill(next, TOO_MANY);
                passRun(turnStep(bus.turnAhead(l, i)), bus.bumpRoom(l, i), bus.settingAt(PHASE));
                copy(next, fewest);
            }
            int answer = at(fewest, FARTHEST);
            return answer < TOO_MANY ? answer : NONE;
        }

        private static int turnStep(int turn) {
            if (turn == RIGHT) {
                return 1;
            }
            return turn == LEFT ? -1 : 0;
        }

        private void passRun(int step, int room, int phase) {
            for (int half = -FARTHEST; half <= FARTHEST; half++) {
                int spent = at(fewest, half + FARTHEST);
                if (spent < TOO_MANY) {
                    putBumps(half + step, spent, room, phase);
                }
            }
        }

        private void putBumps(int half, int spent, int room, int phase) {
            int most = Math.min(room, Math.abs(half));
            for (int many = 0; many <= most; many++) {
                int end = half > 0 ? half - many : half + many;
                int place = end + FARTHEST;
                if (Math.abs(2 * end) <= phase) {
                    put(next, place, Math.min(at(next, place), spent + many));
                }
            }
        }
    }

    /** The states to go back to, as a ring. */
    private static final class Past {
        private final Bus[] kept = new Bus[MOST_STATES];
        private int place = 0;
        private int held = 0;

        Past() {
            for (int i = 0; i < kept.length; i++) {
                kept[i] = new Bus();
            }
        }

        int size() {
            return held;
        }

        void keep(Bus now) {
            Bus slot = slotAt(place);
            if (slot != null) {
                slot.takeFrom(now);
                place = (place + 1) % MOST_STATES;
                held = Math.min(MOST_STATES, held + 1);
            }
        }

        boolean giveBack(Bus into) {
            int before = (place + MOST_STATES - 1) % MOST_STATES;
            Bus slot = slotAt(before);
            if (held == 0 || slot == null) {
                return false;
            }
            into.takeFrom(slot);
            place = before;
            held--;
            return true;
        }

        private Bus slotAt(int i) {
            return i >= 0 && i < kept.length ? kept[i] : null;
        }
    }

    /** THE TEXT and the orders last read from it. */
    private static final class Text {
        private static final int NUMBERS = 3;
        // The shortest order is a letter, a figure and a semicolon.
        private static final int MOST_ORDERS = MOST_BYTES / 3;
        private final int[] bytes = new int[MOST_BYTES];
        private final int[] letters = new int[MOST_ORDERS];
        private final int[] numbers = new int[MOST_ORDERS * NUMBERS];
        private int many = 0;
        private int orders = 0;
        // Of the order that is being read: its letter (0: none), numbers begun, figures of the open one (0: closed).
        private int letter = 0;
        private int begun = 0;
        private int figures = 0;

        Text() {
        }

        int size() {
            return many;
        }

        boolean append(int c) {
            if (many >= MOST_BYTES) {
                return false;
            }
            put(bytes, many, c);
            many++;
            return true;
        }

        void empty() {
            many = 0;
        }

        int orderCount() {
            return orders;
        }

        /** Reads the orders; answers the fault's place, NONE if there is none. */
        int parse() {
            orders = 0;
            letter = 0;
            for (int i = 0; i < many; i++) {
                if (!takes(at(bytes, i))) {
                    return i;
                }
            }
            return letter == 0 && orders > 0 ? NONE : many;
        }

        private boolean takes(int c) {
            if (c == ' ') {
                figures = 0;
                return true;
            }
            if (letter == 0) {
                return opens(c);
            }
            if (c == ';') {
                return closes();
            }
            return within(c, '0', '9') && takesFigure(c - '0');
        }

        private boolean opens(int c) {
            if (numbersOf(c) == 0) {
                return false;
            }
            letter = c;
            begun = 0;
            figures = 0;
            return true;
        }

        private boolean closes() {
            if (begun != numbersOf(letter)) {
                return false;
            }
            put(letters, orders, letter);
            orders++;
            letter = 0;
            return true;
        }

        private boolean takesFigure(int figure) {
            if (figures == 0) {
                if (begun == numbersOf(letter)) {
                    return false;
                }
                begun++;
                put(numbers, cell(orders, begun - 1, NUMBERS), 0);
            }
            if (figures == MOST_FIGURES) {
                return false;
            }
            figures++;
            int place = cell(orders, begun - 1, NUMBERS);
            put(numbers, place, 10 * at(numbers, place) + figure);
            return true;
        }

        /** Does the orders on the bus; answers the number of the one that is refused, NONE if none is. */
        int apply(Bus bus) {
            for (int i = 0; i < orders; i++) {
                if (applyOne(bus, i) < 0) {
                    return i;
                }
            }
            return NONE;
        }

        private int applyOne(Bus bus, int i) {
            int a = at(numbers, cell(i, 0, NUMBERS));
            int b = at(numbers, cell(i, 1, NUMBERS));
            int c = at(numbers, cell(i, 2, NUMBERS));
            switch (at(letters, i)) {
                case 'l': return bus.addLine(a);
                case 'g': return bus.addRun(a, b, c);
                case 'k': return bus.addPocket(a, b);
                case 's': return bus.changeSetting(a, b);
                case 'w': return bus.changeWide(a, b);
                default: return BAD;
            }
        }

        /** How many numbers follow the letter; 0 if it begins no order. */
        private static int numbersOf(int c) {
            switch (c) {
                case 'l': return 1;
                case 'g': return 3;
                case 'k':
                case 's':
                case 'w': return 2;
                default: return 0;
            }
        }
    }
}
