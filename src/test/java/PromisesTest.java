/** For each promise of the document: ordinary inputs, the edges that it names, and wrong inputs. */
public final class PromisesTest {
    private static final int BAD = SnakedBus.BAD, NO = SnakedBus.NO, FULL = SnakedBus.FULL, NONE = SnakedBus.NONE;
    private static final int DEPTH = 0, SPACE = 1, CUT = 2, TOLERANCE = 3, TARGET = 4, PHASE = 5, NEAR = 6;
    private static final int LEFT = 0, RIGHT = 1;
    private static final int LOWEST = Integer.MIN_VALUE, HIGHEST = Integer.MAX_VALUE;
    private static int wrong = 0;
    private static int checks = 0;

    private static void due(int promise, String what, long got, long want) {
        checks++;
        if (got != want) {
            wrong++;
            System.out.println("promise " + promise + ": " + what + " answered " + got + ", due is " + want);
        }
    }

    private static void types(SnakedBus x, String text) {
        for (int i = 0; i < text.length(); i++) {
            x.type(text.charAt(i));
        }
    }

    /** What does() answers to the text on an object that has one line and one pocket. */
    private static int doesOn(String text) {
        SnakedBus x = new SnakedBus();
        x.line(10);
        x.pocket(10, 1);
        types(x, text);
        return x.does();
    }

    private static SnakedBus withLines(int... longs) {
        SnakedBus x = new SnakedBus();
        for (int a : longs) {
            x.line(a);
        }
        return x;
    }

    public static void main(String[] args) {
        aNewObject();
        line();
        goes();
        shortens();
        pocket();
        widens();
        touches();
        sets();
        of();
        lackAndNeed();
        run();
        about();
        setting();
        count();
        draws();
        length();
        blocked();
        can();
        least();
        greatest();
        more();
        bumps();
        skew();
        type();
        clear();
        does();
        faults();
        back();
        told();
        digest();
        System.out.println(checks + " checks, " + wrong + " wrong");
        if (wrong != 0) {
            System.exit(1);
        }
    }

    private static void aNewObject() {
        SnakedBus x = new SnakedBus();
        int[] first = {6, 2, 0, 0, 0, 0, 4};
        for (int k = 0; k < first.length; k++) {
            due(1, "setting " + k, x.setting(k), first[k]);
        }
        due(1, "LINES", x.count(0), 0);
        due(1, "POCKETS", x.count(1), 0);
        due(1, "GAIN", x.count(2), 108);
        due(1, "ALL CAN", x.count(3), 1);
        for (int what = 0; what < 5; what++) {
            due(1, "told " + what, x.told(what), 0);
        }
        due(1, "no text", x.does(), -10);
        due(1, "no state", x.back(), NO);
    }

    private static void line() {
        SnakedBus x = new SnakedBus();
        due(2, "too short", x.line(0), BAD);
        due(2, "below 0", x.line(LOWEST), BAD);
        due(2, "too long", x.line(61), BAD);
        due(2, "far too long", x.line(HIGHEST), BAD);
        due(2, "no state of refused ones", x.told(4), 0);
        due(2, "shortest", x.line(1), 0);
        due(2, "longest", x.line(60), 1);
        due(2, "one run", x.of(1, 0), 1);
        due(2, "its LONG", x.run(1, 0, 0), 60);
        for (int l = 2; l < 6; l++) {
            due(2, "line " + l, x.line(10 + l), l);
        }
        due(2, "a seventh", x.line(10), FULL);
        due(2, "BAD ahead of FULL", x.line(61), BAD);
        due(2, "still six", x.count(0), 6);
        due(2, "states", x.told(4), 5);
    }

    private static void goes() {
        SnakedBus x = withLines(10, 20);
        due(3, "no such line", x.goes(2, RIGHT, 5), BAD);
        due(3, "line below 0", x.goes(-1, RIGHT, 5), BAD);
        due(3, "turn below 0", x.goes(0, -1, 5), BAD);
        due(3, "turn 2", x.goes(0, 2, 5), BAD);
        due(3, "too short", x.goes(0, LEFT, 0), BAD);
        due(3, "too long", x.goes(0, LEFT, 61), BAD);
        due(3, "no state", x.told(4), 2);
        for (int i = 1; i < 8; i++) {
            due(3, "run " + i, x.goes(1, i % 2, i == 1 ? 60 : i), i + 1);
        }
        due(3, "a ninth", x.goes(1, LEFT, 5), FULL);
        due(3, "BAD ahead of FULL", x.goes(1, 2, 5), BAD);
        due(3, "LONG of run 1", x.run(1, 1, 0), 60);
        due(3, "LONG of run 7", x.run(1, 7, 0), 7);
        due(3, "TURN of run 7", x.run(1, 7, 1), RIGHT);
        due(3, "TURN of run 6", x.run(1, 6, 1), LEFT);
        due(3, "the other line", x.of(0, 0), 1);
        due(3, "states", x.told(4), 5);
    }

    private static void shortens() {
        SnakedBus x = withLines(10, 20);
        x.goes(0, RIGHT, 7);
        x.goes(0, LEFT, 9);
        due(4, "no such line", x.shortens(2), BAD);
        due(4, "line below 0", x.shortens(-1), BAD);
        due(4, "one run alone", x.shortens(1), NO);
        due(4, "no state", x.told(4), 4);
        due(4, "of three", x.shortens(0), 2);
        due(4, "BASE", x.of(0, 1), 17);
        due(4, "left turns", x.of(0, 6), 0);
        due(4, "the run is gone", x.run(0, 2, 0), BAD);
        due(4, "of two", x.shortens(0), 1);
        due(4, "of one", x.shortens(0), NO);
        due(4, "a new run", x.goes(0, LEFT, 30), 2);
        due(4, "its LONG", x.run(0, 1, 0), 30);
        due(4, "its TURN", x.run(0, 1, 1), LEFT);
    }

    private static void pocket() {
        SnakedBus x = new SnakedBus();
        due(5, "too narrow", x.pocket(0, 1), BAD);
        due(5, "too wide", x.pocket(61, 1), BAD);
        due(5, "set below 0", x.pocket(10, -1), BAD);
        due(5, "a bit too many", x.pocket(10, 64), BAD);
        due(5, "no state", x.told(4), 0);
        due(5, "narrowest", x.pocket(1, 0), 0);
        due(5, "widest", x.pocket(60, 63), 1);
        for (int p = 2; p < 6; p++) {
            due(5, "pocket " + p, x.pocket(5, p), p);
        }
        due(5, "a seventh", x.pocket(5, 1), FULL);
        due(5, "BAD ahead of FULL", x.pocket(5, 64), BAD);
        due(5, "WIDE", x.about(1, 0), 60);
        due(5, "no line is there", x.about(1, 1), 0);
        x.line(5);
        due(5, "one that came", x.about(1, 1), 1);
        due(5, "and touches", x.of(0, 4), 0b101010);
    }

    private static void widens() {
        SnakedBus x = new SnakedBus();
        x.pocket(10, 3);
        due(6, "no such pocket", x.widens(1, 5), BAD);
        due(6, "pocket below 0", x.widens(-1, 5), BAD);
        due(6, "too narrow", x.widens(0, 0), BAD);
        due(6, "too wide", x.widens(0, 61), BAD);
        due(6, "no state", x.told(4), 1);
        due(6, "was 10", x.widens(0, 60), 10);
        due(6, "was 60", x.widens(0, 1), 60);
        due(6, "the same", x.widens(0, 1), 1);
        due(6, "WIDE", x.about(0, 0), 1);
        due(6, "the same leaves a state, too", x.told(4), 4);
    }

    private static void touches() {
        SnakedBus x = withLines(10);
        x.pocket(10, 3);
        due(7, "no such pocket", x.touches(1, 5), BAD);
        due(7, "pocket below 0", x.touches(-1, 5), BAD);
        due(7, "set below 0", x.touches(0, -1), BAD);
        due(7, "a bit too many", x.touches(0, 64), BAD);
        due(7, "no state", x.told(4), 2);
        due(7, "lines not there are told, too", x.touches(0, 63), 3);
        due(7, "was 63", x.touches(0, 0), 63);
        due(7, "line 0 touches none", x.of(0, 4), 0);
        due(7, "was 0", x.touches(0, 1), 0);
        due(7, "line 0 touches it", x.of(0, 4), 1);
        due(7, "states", x.told(4), 5);
    }

    private static void sets() {
        int[] low = {2, 1, 0, 0, 0, 0, 1};
        int[] high = {12, 4, 2, 20, 999, 6, 9};
        int[] first = {6, 2, 0, 0, 0, 0, 4};
        SnakedBus x = new SnakedBus();
        for (int k = 0; k < 7; k++) {
            due(8, k + " too low", x.sets(k, low[k] - 1), BAD);
            due(8, k + " too high", x.sets(k, high[k] + 1), BAD);
            due(8, k + " to the lowest", x.sets(k, low[k]), first[k]);
            due(8, k + " to the highest", x.sets(k, high[k]), low[k]);
            due(8, k + " is", x.setting(k), high[k]);
        }
        due(8, "setting -1", x.sets(-1, 1), BAD);
        due(8, "setting 7", x.sets(7, 1), BAD);
        due(8, "refused", x.told(0), 16);
        due(8, "states", x.told(4), 5);
    }

    private static void of() {
        SnakedBus x = withLines(10, 20);
        x.goes(0, RIGHT, 5);
        x.goes(0, RIGHT, 6);
        x.goes(0, LEFT, 7);
        x.pocket(5, 2);
        x.pocket(5, 1);
        x.pocket(5, 3);
        due(9, "RUNS", x.of(0, 0), 4);
        due(9, "BASE", x.of(0, 1), 28);
        due(9, "POCKETS of 0", x.of(0, 4), 6);
        due(9, "POCKETS of 1", x.of(1, 4), 5);
        due(9, "right TURNS", x.of(0, 5), 2);
        due(9, "left TURNS", x.of(0, 6), 1);
        due(9, "line 1 has no turns", x.of(1, 5) + x.of(1, 6), 0);
        x.sets(CUT, 2);
        due(9, "BASE cut", x.of(0, 1), 22);
        due(9, "BASE without turns", x.of(1, 1), 20);
        due(9, "no such line", x.of(2, 0), BAD);
        due(9, "line below 0", x.of(-1, 0), BAD);
        due(9, "what 7", x.of(0, 7), BAD);
        due(9, "what -1", x.of(0, -1), BAD);
        SnakedBus y = withLines(1);
        y.sets(CUT, 2);
        y.goes(0, LEFT, 1);
        due(9, "BASE just 0", y.of(0, 1), 0);
        y.goes(0, LEFT, 1);
        due(9, "BASE 0 at least", y.of(0, 1), 0);
    }

    private static void lackAndNeed() {
        SnakedBus x = withLines(20);
        due(9, "LACK by a length below", x.of(0, 2), 0);
        due(9, "NEED by a length below", x.of(0, 3), 0);
        x.sets(TARGET, 20);
        due(9, "LACK by BASE", x.of(0, 2), 0);
        x.sets(TARGET, 23);
        due(9, "LACK up to even", x.of(0, 2), 4);
        due(9, "NEED up to whole", x.of(0, 3), 1);
        x.sets(TARGET, 28);
        due(9, "NEED of just one GAIN", x.of(0, 3), 1);
        x.sets(TARGET, 29);
        due(9, "LACK one more", x.of(0, 2), 10);
        due(9, "NEED one more", x.of(0, 3), 2);
        x.sets(TOLERANCE, 3);
        due(9, "LACK less TOLERANCE", x.of(0, 2), 6);
        x.sets(TOLERANCE, 20);
        due(9, "LACK all within TOLERANCE", x.of(0, 2), 0);
        x.sets(TOLERANCE, 0);
        x.sets(DEPTH, 2);
        due(9, "NEED without GAIN", x.of(0, 3), 1000);
        x.sets(TARGET, 20);
        due(9, "no LACK without GAIN", x.of(0, 3), 0);
        x.sets(DEPTH, 3);
        x.sets(TARGET, 999);
        due(9, "LACK the most", x.of(0, 2), 980);
        due(9, "NEED the most by GAIN 2", x.of(0, 3), 490);
    }

    private static void run() {
        SnakedBus x = withLines(10);
        x.goes(0, RIGHT, 8);
        x.goes(0, LEFT, 3);
        due(10, "LONG 0", x.run(0, 0, 0), 10);
        due(10, "LONG 2", x.run(0, 2, 0), 3);
        due(10, "no TURN ahead of 0", x.run(0, 0, 1), NONE);
        due(10, "TURN ahead of 1", x.run(0, 1, 1), RIGHT);
        due(10, "TURN ahead of 2", x.run(0, 2, 1), LEFT);
        due(10, "BUMPS in 0", x.run(0, 0, 2), 2);
        due(10, "BUMPS in 1", x.run(0, 1, 2), 2);
        due(10, "BUMPS in 2", x.run(0, 2, 2), 0);
        x.sets(NEAR, 1);
        due(10, "BUMPS by NEAR 1", x.run(0, 2, 2), 3);
        x.sets(NEAR, 9);
        due(10, "BUMPS by NEAR 9", x.run(0, 0, 2), 1);
        due(10, "no such line", x.run(1, 0, 0), BAD);
        due(10, "line below 0", x.run(-1, 0, 0), BAD);
        due(10, "no such run", x.run(0, 3, 0), BAD);
        due(10, "run below 0", x.run(0, -1, 0), BAD);
        due(10, "what 3", x.run(0, 0, 3), BAD);
        due(10, "what -1", x.run(0, 0, -1), BAD);
        due(10, "NONE is not refused", x.told(0), 6);
    }

    private static void about() {
        SnakedBus x = withLines(20, 20);
        x.pocket(10, 0b100110);
        due(11, "WIDE", x.about(0, 0), 10);
        due(11, "there", x.about(0, 1), 2);
        due(11, "HUMPS", x.about(0, 2), 3);
        due(11, "NONE: TARGET below BASE", x.about(0, 3), NONE);
        x.sets(TARGET, 20);
        due(11, "all FREE", x.about(0, 3), 3);
        x.touches(0, 3);
        x.sets(TARGET, 28);
        due(11, "FREE less DRAWN", x.about(0, 3), 1);
        x.sets(TARGET, 30);
        due(11, "NONE: ALL can not", x.about(0, 3), NONE);
        x.sets(SPACE, 4);
        due(11, "HUMPS by SPACE 4", x.about(0, 2), 1);
        x.widens(0, 11);
        due(11, "HUMPS cut", x.about(0, 2), 1);
        x.widens(0, 12);
        due(11, "HUMPS just two", x.about(0, 2), 2);
        x.widens(0, 3);
        due(11, "too narrow for one", x.about(0, 2), 0);
        x.widens(0, 60);
        x.sets(SPACE, 1);
        due(11, "the most HUMPS", x.about(0, 2), 30);
        x.sets(DEPTH, 2);
        due(11, "GAIN 2 is enough", x.about(0, 2), 30);
        x.sets(CUT, 1);
        due(11, "no HUMPS without GAIN", x.about(0, 2), 0);
        due(11, "no such pocket", x.about(1, 0), BAD);
        due(11, "pocket below 0", x.about(-1, 0), BAD);
        due(11, "what 4", x.about(0, 4), BAD);
        due(11, "what -1", x.about(0, -1), BAD);
        due(11, "NONE is not refused", x.told(0), 4);
    }

    private static void setting() {
        SnakedBus x = new SnakedBus();
        x.sets(TARGET, 77);
        due(12, "TARGET", x.setting(TARGET), 77);
        due(12, "NEAR", x.setting(NEAR), 4);
        due(12, "setting -1", x.setting(-1), BAD);
        due(12, "setting 7", x.setting(7), BAD);
        due(12, "refused", x.told(0), 2);
    }

    private static void count() {
        SnakedBus x = withLines(20, 30);
        x.pocket(10, 1);
        x.pocket(14, 2);
        x.pocket(1, 3);
        x.sets(TARGET, 41);
        due(13, "LINES", x.count(0), 2);
        due(13, "POCKETS", x.count(1), 3);
        due(13, "GAIN", x.count(2), 108);
        due(13, "ALL CAN", x.count(3), 1);
        due(13, "longest BASE", x.count(4), 30);
        due(13, "HUMPS", x.count(5), 7);
        due(13, "NEEDS", x.count(6), 5);
        x.sets(TARGET, 999);
        due(13, "ALL can not", x.count(3), 0);
        x.sets(DEPTH, 2);
        x.sets(SPACE, 4);
        x.sets(CUT, 2);
        due(13, "the least GAIN", x.count(2), 88);
        due(13, "no HUMPS", x.count(5), 0);
        due(13, "NEEDS without GAIN", x.count(6), 2000);
        due(13, "what 7", x.count(7), BAD);
        due(13, "what -1", x.count(-1), BAD);
        due(13, "longest BASE of none", new SnakedBus().count(4), 0);
    }

    private static void draws() {
        SnakedBus x = withLines(20, 20, 20);
        x.pocket(6, 0b111);
        x.pocket(6, 0b011);
        x.pocket(6, 0b001);
        x.sets(TARGET, 36);
        int[][] due = {{0, 0, 2}, {0, 2, 0}, {2, 0, 0}};
        for (int l = 0; l < 3; l++) {
            for (int p = 0; p < 3; p++) {
                due(14, "line " + l + " in pocket " + p, x.draws(l, p), due[l][p]);
            }
        }
        x.sets(TARGET, 28);
        due(14, "the most of line 0 in pocket 0", x.draws(0, 0), 1);
        due(14, "line 1 next, but room for line 2", x.draws(1, 0), 0);
        due(14, "line 1 in pocket 1", x.draws(1, 1), 1);
        due(14, "line 2 in pocket 0", x.draws(2, 0), 1);
        due(14, "no such line", x.draws(3, 0), BAD);
        due(14, "line below 0", x.draws(-1, 0), BAD);
        due(14, "no such pocket", x.draws(0, 3), BAD);
        due(14, "pocket below 0", x.draws(0, -1), BAD);
        x.sets(TARGET, 37);
        due(14, "ALL can not", x.draws(0, 0), NO);
        due(14, "BAD ahead of NO", x.draws(0, 3), BAD);
        due(14, "told NO", x.told(1), 1);
        x.back();
        due(14, "again after back", x.draws(2, 0), 1);
    }

    private static void length() {
        SnakedBus x = withLines(20, 25);
        x.pocket(60, 3);
        x.sets(TARGET, 32);
        due(15, "up to TARGET", x.length(0), 32);
        due(15, "one beyond, for evenness", x.length(1), 33);
        x.sets(TOLERANCE, 5);
        due(15, "less TOLERANCE", x.length(0), 28);
        due(15, "odd", x.length(1), 27);
        x.sets(TOLERANCE, 20);
        due(15, "no LACK", x.length(1), 25);
        due(15, "no such line", x.length(2), BAD);
        due(15, "line below 0", x.length(-1), BAD);
        x.sets(TARGET, 24);
        due(15, "ALL can not", x.length(0), NO);
        due(15, "BAD ahead of NO", x.length(2), BAD);
    }

    private static void blocked() {
        due(16, "no lines", new SnakedBus().blocked(), 0);
        SnakedBus x = withLines(10, 30, 20, 40);
        x.sets(TARGET, 25);
        due(16, "all whose BASE is above", x.blocked(), 0b1010);
        x.sets(TARGET, 40);
        due(16, "the least of like ones", x.blocked(), 1);
        x.pocket(60, 0b0001);
        due(16, "then line 1", x.blocked(), 2);
        x.pocket(60, 0b0010);
        due(16, "then line 2", x.blocked(), 4);
        x.pocket(60, 0b0100);
        due(16, "ALL CAN", x.blocked(), 0);
        SnakedBus y = withLines(10, 10, 10, 10);
        y.sets(TARGET, 18);
        y.pocket(6, 0b0111);
        y.pocket(2, 0b1000);
        due(16, "three for two humps", y.blocked(), 0b0111);
        y.touches(1, 0b1001);
        due(16, "four for three humps", y.blocked(), 0b1111);
        y.touches(1, 0);
        due(16, "fewest lines first", y.blocked(), 0b1000);
        due(16, "nothing refused", y.told(0) + y.told(1) + y.told(2), 0);
    }

    private static void can() {
        SnakedBus x = withLines(20, 24);
        x.pocket(6, 3);
        due(17, "below BASE", x.can(23), 0);
        due(17, "at BASE", x.can(24), 1);
        due(17, "one each", x.can(28), 1);
        due(17, "three are too many", x.can(29), 0);
        due(17, "at 0", x.can(0), 0);
        due(17, "at 999", x.can(999), 0);
        due(17, "below 0", x.can(-1), BAD);
        due(17, "above 999", x.can(1000), BAD);
        due(17, "TARGET stays", x.setting(TARGET), 0);
        due(17, "no lines, 0", new SnakedBus().can(0), 1);
        due(17, "no lines, 999", new SnakedBus().can(999), 1);
    }

    private static void least() {
        due(18, "no lines", new SnakedBus().least(), 0);
        SnakedBus x = withLines(20, 24);
        due(18, "line 0 has no pocket", x.least(), NONE);
        x.sets(TOLERANCE, 4);
        due(18, "within TOLERANCE", x.least(), 24);
        x.sets(TOLERANCE, 3);
        due(18, "out of TOLERANCE", x.least(), NONE);
        x.pocket(2, 1);
        due(18, "by a hump", x.least(), 24);
        SnakedBus y = withLines(60);
        for (int i = 1; i < 8; i++) {
            y.goes(0, LEFT, 60);
        }
        due(18, "the longest line", y.least(), 480);
    }

    private static void greatest() {
        due(19, "no lines", new SnakedBus().greatest(), 999);
        SnakedBus x = withLines(20, 24);
        due(19, "by none", x.greatest(), NONE);
        x.pocket(6, 3);
        due(19, "one hump each", x.greatest(), 28);
        x.sets(TOLERANCE, 9);
        due(19, "with TOLERANCE", x.greatest(), 37);
        x.sets(TOLERANCE, 0);
        x.line(28);
        due(19, "a third line, without lack", x.greatest(), 28);
        SnakedBus y = withLines(60);
        y.sets(SPACE, 1);
        y.sets(DEPTH, 12);
        y.pocket(60, 1);
        due(19, "one pocket", y.greatest(), 60 + 30 * 22);
        y.pocket(60, 1);
        due(19, "999 at most", y.greatest(), 999);
        SnakedBus z = withLines(20);
        due(19, "no pocket", z.greatest(), 20);
        z.sets(TOLERANCE, 20);
        due(19, "no pocket, with TOLERANCE", z.greatest(), 40);
    }

    private static void more() {
        SnakedBus x = new SnakedBus();
        due(20, "ALL CAN", x.more(), NO);
        x.line(20);
        x.line(20);
        due(20, "TARGET below BASE", x.more(), NONE);
        x.sets(TARGET, 28);
        due(20, "no pockets", x.more(), NONE);
        x.pocket(2, 0b100);
        x.pocket(2, 0b011);
        x.pocket(1, 0b010);
        due(20, "the least that does", x.more(), 1);
        x.touches(1, 0b001);
        due(20, "a pocket without humps", x.more(), 2);
        x.sets(TARGET, 29);
        due(20, "one is not enough", x.more(), NONE);
        x.sets(TARGET, 28);
        x.widens(2, 2);
        due(20, "ALL CAN again", x.more(), NO);
        x.sets(DEPTH, 2);
        due(20, "no GAIN", x.more(), NONE);
        due(20, "refused", x.told(1), 2);
        due(20, "nothing is other", x.about(2, 2), 0);
        SnakedBus y = withLines(20, 40);
        y.pocket(1, 1);
        y.sets(TARGET, 28);
        due(20, "no hump helps a BASE that is above", y.more(), NONE);
        SnakedBus z = withLines(20, 20);
        z.pocket(1, 1);
        z.pocket(1, 2);
        z.sets(TARGET, 28);
        due(20, "one more in either is not enough", z.more(), NONE);
        due(20, "nor after it was asked", z.more(), NONE);
        due(20, "HUMPS stay", z.count(5), 0);
    }

    private static void bumps() {
        SnakedBus x = withLines(10);
        due(21, "no turns", x.bumps(0), 0);
        x.goes(0, RIGHT, 8);
        due(21, "one turn", x.bumps(0), 1);
        x.goes(0, RIGHT, 3);
        due(21, "no room in the last run", x.bumps(0), NONE);
        x.sets(PHASE, 6);
        due(21, "not 0 at the end", x.bumps(0), NONE);
        x.goes(0, LEFT, 3);
        due(21, "one bump, then turns even out", x.bumps(0), 1);
        x.sets(PHASE, 1);
        due(21, "an odd PHASE allows no skew of 2", x.bumps(0), NONE);
        x.sets(PHASE, 2);
        due(21, "one bump ahead of the second turn", x.bumps(0), 1);
        x.sets(NEAR, 9);
        due(21, "no room", x.bumps(0), NONE);
        due(21, "no such line", x.bumps(1), BAD);
        due(21, "line below 0", x.bumps(-1), BAD);
        due(21, "NONE is not refused", x.told(0), 2);
        SnakedBus y = withLines(5);
        y.goes(0, LEFT, 60);
        y.goes(0, LEFT, 60);
        y.goes(0, LEFT, 60);
        due(21, "PHASE 0, three left", y.bumps(0), 3);
        y.sets(PHASE, 6);
        due(21, "all in the last", y.bumps(0), 3);
        y.goes(0, RIGHT, 60);
        due(21, "one evened out", y.bumps(0), 2);
        SnakedBus z = withLines(5);
        z.sets(PHASE, 4);
        for (int i = 0; i < 4; i++) {
            z.goes(0, RIGHT, i == 0 ? 8 : 3);
        }
        z.goes(0, LEFT, 3);
        z.goes(0, LEFT, 3);
        due(21, "a run's bumps end at 0", z.bumps(0), NONE);
        z.goes(0, LEFT, 4);
        due(21, "PHASE broken between", z.bumps(0), NONE);
        z.sets(PHASE, 6);
        due(21, "PHASE wide enough", z.bumps(0), 1);
    }

    private static void skew() {
        SnakedBus x = withLines(10);
        int[] sides = {RIGHT, RIGHT, RIGHT, LEFT, RIGHT, RIGHT, RIGHT};
        int[] due = {100, 102, 104, 106, 104, 106, 108, 110};
        for (int t : sides) {
            x.goes(0, t, 5);
        }
        for (int i = 0; i < due.length; i++) {
            due(22, "run " + i, x.skew(0, i), due[i]);
        }
        SnakedBus y = withLines(10, 10);
        for (int i = 0; i < 7; i++) {
            y.goes(1, LEFT, 60);
        }
        due(22, "all left", y.skew(1, 7), 86);
        due(22, "no such line", y.skew(2, 0), BAD);
        due(22, "line below 0", y.skew(-1, 0), BAD);
        due(22, "no such run", y.skew(0, 1), BAD);
        due(22, "run below 0", y.skew(1, -1), BAD);
    }

    private static void type() {
        SnakedBus x = new SnakedBus();
        due(23, "byte -1", x.type(-1), BAD);
        due(23, "byte 128", x.type(128), BAD);
        due(23, "byte 0", x.type(0), 1);
        due(23, "byte 127", x.type(127), 2);
        for (int i = 3; i <= 120; i++) {
            due(23, "byte " + i, x.type('l'), i);
        }
        due(23, "one too many", x.type('l'), FULL);
        due(23, "BAD ahead of FULL", x.type(128), BAD);
        due(23, "told FULL", x.told(2), 1);
        due(23, "bytes", x.told(3), 120);
        due(23, "no states", x.told(4), 0);
    }

    private static void clear() {
        SnakedBus x = new SnakedBus();
        due(24, "empty", x.clear(), 0);
        types(x, "l5;");
        due(24, "three", x.clear(), 3);
        due(24, "bytes", x.told(3), 0);
        due(24, "nothing to do", x.does(), -10);
        for (int i = 0; i < 121; i++) {
            x.type(' ');
        }
        due(24, "all", x.clear(), 120);
        due(24, "room again", x.type(' '), 1);
        due(24, "no states", x.told(4), 0);
    }

    private static void does() {
        SnakedBus x = new SnakedBus();
        types(x, " l 20 ; g0 1 007;k60 63;s 4 999;w0 1;");
        due(25, "five orders", x.does(), 5);
        due(25, "line", x.of(0, 1), 27);
        due(25, "turn", x.run(0, 1, 1), RIGHT);
        due(25, "pocket", x.about(0, 0), 1);
        due(25, "touch", x.about(0, 1), 1);
        due(25, "setting", x.setting(TARGET), 999);
        due(25, "one state", x.told(4), 1);
        due(25, "the text stays", x.told(3), 37);
        due(25, "again", x.does(), 5);
        due(25, "two lines", x.count(0), 2);
        due(25, "line 0 goes on", x.of(0, 0), 3);
        due(25, "two pockets", x.count(1), 2);
        x.clear();
        types(x, "l5;l6;s4 5;l61;");
        due(25, "order 3 is refused", x.does(), -1003);
        due(25, "nothing is done", x.count(0), 2);
        due(25, "no state", x.told(4), 2);
        due(25, "nothing counts", x.told(0), 0);
        x.clear();
        types(x, "l1;l2;l3;l4;l5;");
        due(25, "FULL at the fifth", x.does(), -1004);
        due(25, "FULL does not count", x.told(2), 0);
        due(25, "first a line, then its run", doesOn("l5;g1 0 5;"), 2);
        due(25, "first its run", doesOn("g1 0 5;l5;"), -1000);
        due(25, "pocket that is not there yet", doesOn("w1 5;k5 0;"), -1000);
        due(25, "turn 2", doesOn("g0 2 5;"), -1000);
        due(25, "set 64", doesOn("k5 64;"), -1000);
        due(25, "setting 7", doesOn("s7 1;"), -1000);
        due(25, "width 0", doesOn("w0 0;"), -1000);
        due(25, "refused and then a fault", doesOn("l61;x"), -14);
        StringBuilder forty = new StringBuilder();
        for (int i = 0; i < 40; i++) {
            forty.append(i == 39 ? "l0;" : i < 5 ? "l9;" : "l8;");
        }
        due(25, "forty orders, FULL at number 5", doesOn(forty.toString()), -1005);
        due(25, "the last order", doesOn("s4 1;".repeat(23) + "s4;".repeat(1)), -10 - 117);
        due(25, "many orders", doesOn("s4 1;".repeat(24)), 24);
    }

    private static void faults() {
        String[] texts = {"", " ", "l", "l5", "l5 ", "x", ";", "l;", "l5;;", "l5; ", "l1234;", "l123;", "l1 2;",
            "k5;", "k5 ;", "k5 1", "k5 1 1;", "g0 1;", "g0 1 5 5;", "l5;l", "L5;", "l 0 5;", "l-5;", "l5,", "ll5;",
            "l5g0 1 5;", "  l5;x", "s4\t5;", "w 0 7", "g0 1 5", "g0 1 0005;", "l 5; ;", "k005 001 ;", "k0005 1;"};
        int[] places = {0, 1, 1, 2, 3, 0, 0, 1, 3, NONE, 4, NONE, 3,
            2, 3, 4, 5, 4, 7, 4, 0, 4, 1, 2, 1,
            2, 5, 2, 5, 6, 8, 5, NONE, 4};
        for (int i = 0; i < texts.length; i++) {
            int got = doesOn(texts[i]);
            boolean refusedOrder = got <= -1000;
            int want = places[i] == NONE ? 1 : -10 - places[i];
            due(25, "'" + texts[i] + "'", refusedOrder ? 1 : got, want);
        }
        SnakedBus x = new SnakedBus();
        types(x, "l5;l5");
        due(25, "no order of a text that ends too early", x.does(), -15);
        due(25, "is done", x.count(0), 0);
        due(25, "no state", x.told(4), 0);
        due(25, "a fault is not refused", x.told(0) + x.told(1) + x.told(2), 0);
        types(x, ";");
        due(25, "ended then", x.does(), 2);
    }

    private static void back() {
        SnakedBus x = new SnakedBus();
        due(26, "none", x.back(), NO);
        x.line(10);
        x.goes(0, RIGHT, 5);
        x.shortens(0);
        x.pocket(5, 1);
        x.widens(0, 6);
        x.touches(0, 2);
        x.sets(TARGET, 50);
        types(x, "l7;");
        x.line(99);
        due(26, "five at most", x.told(4), 5);
        due(26, "TARGET back", x.back(), 4);
        due(26, "TARGET", x.setting(TARGET), 0);
        due(26, "the text stays", x.told(3), 3);
        due(26, "so do the refused", x.told(0), 1);
        due(26, "touch back", x.back(), 3);
        due(26, "touch", x.about(0, 1), 1);
        due(26, "width back", x.back(), 2);
        due(26, "width", x.about(0, 0), 5);
        due(26, "pocket back", x.back(), 1);
        due(26, "pockets", x.count(1), 0);
        due(26, "run back", x.back(), 0);
        due(26, "runs", x.of(0, 0), 2);
        due(26, "its turn", x.run(0, 1, 1), RIGHT);
        due(26, "older ones are lost", x.back(), NO);
        due(26, "a text", x.does(), 1);
        due(26, "back over it", x.back(), 0);
        due(26, "lines", x.count(0), 1);
        due(26, "told NO", x.told(1), 2);
        x.line(1);
        x.back();
        x.line(2);
        due(26, "one state after back and a change", x.told(4), 1);
        due(26, "back to before it", x.back(), 0);
        due(26, "lines then", x.count(0), 1);
    }

    private static void told() {
        SnakedBus x = new SnakedBus();
        x.line(0);
        x.of(0, 0);
        x.more();
        for (int i = 0; i < 7; i++) {
            x.line(5);
        }
        types(x, "abc");
        due(27, "BAD", x.told(0), 2);
        due(27, "NO", x.told(1), 1);
        due(27, "FULL", x.told(2), 1);
        due(27, "bytes", x.told(3), 3);
        due(27, "STATES", x.told(4), 5);
        due(27, "what 5", x.told(5), BAD);
        due(27, "what -1", x.told(-1), BAD);
        due(27, "BAD then", x.told(0), 4);
    }

    private static void digest() {
        long h = 2053;
        int[] fresh = {0, 0, 0, 0, 0, 0, 0, 108, 1, 0, 0, 0, 6, 2, 0, 0, 0, 0, 4, 0, 0, 999};
        for (int v : fresh) {
            h = 31 * h + v;
        }
        due(28, "a new object", new SnakedBus().digest(), h);
        SnakedBus x = withLines(20, 24);
        x.pocket(6, 3);
        x.sets(TARGET, 28);
        x.line(0);
        h = 2053;
        int[] values = {1, 0, 0, 0, 4, 2, 1, 108, 1, 24, 2, 2, 6, 2, 0, 0, 28, 0, 4,
            1, 20, 8, 1, 1, 0, 0, 20, -1, 5, 0, 1, 24, 4, 1, 1, 0, 0, 24, -1, 6, 0,
            6, 3, 2, 0, 0, 24, 28, 1, 1};
        for (int v : values) {
            h = 31 * h + v;
        }
        due(28, "ALL CAN", x.digest(), h);
        due(28, "the same again", x.digest(), h);
        x.sets(TARGET, 29);
        h = 2053;
        int[] cannot = {1, 0, 0, 0, 5, 2, 1, 108, 0, 24, 2, 3, 6, 2, 0, 0, 29, 0, 4,
            1, 20, 10, 2, 1, 0, 0, 20, -1, 5, 0, 1, 24, 6, 1, 1, 0, 0, 24, -1, 6, 0,
            6, 3, 2, -1, 3, 24, 28};
        for (int v : cannot) {
            h = 31 * h + v;
        }
        due(28, "ALL can not", x.digest(), h);
    }
}
