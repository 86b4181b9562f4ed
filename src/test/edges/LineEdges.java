/** The terms of lines, settings and pockets, and of what each line needs by a length. */
final class LineEdges extends Edges {
    LineEdges(Book book) {
        super(book);
    }

    @Override
    void all() {
        uses();
        lines();
        runs();
        settings();
        base();
        pockets();
        humps();
        gain();
        lack();
        need();
        allCan();
    }

    private void says(String words) {
        says("Terms", words);
    }

    private void uses() {
        says("What it is", "An object is used for at most 512 calls after it has been made");
        SnakedBus changed = new SnakedBus();
        for (int i = 1; i < 512; i++) {
            changed.sets(4, i);
        }
        check(changed.sets(4, 999) == 511, "sets as call 512");
        SnakedBus taken = new SnakedBus();
        for (int i = 1; i < 512; i++) {
            taken.sets(4, i);
        }
        check(taken.back() == 4, "back as call 512");
        SnakedBus refused = new SnakedBus();
        for (int i = 1; i < 512; i++) {
            refused.line(0);
        }
        check(refused.told(0) == 511, "told as call 512");
    }

    private void lines() {
        says("What it is", "LINES 0 on, as they come (never more than 6)");
        on("").due("count(0)", 0).due("of(0,0)", BAD).due("line(1)", 0).due("of(0,0)", 1).due("of(1,0)", BAD)
            .due("line(2)", 1).due("line(3)", 2).due("line(4)", 3).due("line(5)", 4).due("line(6)", 5)
            .due("count(0)", 6).due("line(7)", FULL).due("count(0)", 6).due("of(5,1)", 6).due("of(6,1)", BAD)
            .due("back()", 4).due("count(0)", 5).due("of(5,1)", BAD).due("line(8)", 5).due("line(8)", FULL);
    }

    private void runs() {
        says("RUNS, 1 to 8 of them,");
        on("line(10)").due("of(0,0)", 1).due("shortens(0)", NO).due("of(0,0)", 1).due("goes(0,0,5)", 2)
            .due("shortens(0)", 1).due("shortens(0)", NO);
        on(SEVEN_RUNS).due("of(0,0)", 7).due("goes(0,0,6)", 8).due("of(0,0)", 8).due("run(0,7,0)", 6)
            .due("goes(0,0,7)", FULL).due("of(0,0)", 8).due("run(0,8,0)", BAD).due("shortens(0)", 7)
            .due("goes(0,0,8)", 8).due("goes(0,0,8)", FULL);
        says("each LONG a (1 .. 60);");
        range("", "line(%)", 1, 60, 0);
        range("line(9)", "goes(0,0,%)", 1, 60, 2);
        on("line(1)").due("run(0,0,0)", 1).due("goes(0,1,60)", 2).due("run(0,1,0)", 60).due("of(0,1)", 61);
        on("line(60)").due("run(0,0,0)", 60).due("goes(0,1,1)", 2).due("run(0,1,0)", 1).due("of(0,1)", 61);
        says("between two RUNS a TURN, 0 left, 1 right.");
        range("line(9)", "goes(0,%,9)", 0, 1, 2);
        on("line(9) goes(0,0,8) goes(0,1,7)").due("run(0,0,1)", NONE).due("run(0,1,1)", 0).due("run(0,2,1)", 1)
            .due("of(0,5)", 1).due("of(0,6)", 1).due("shortens(0)", 2).due("of(0,5)", 0).due("of(0,6)", 1)
            .due("shortens(0)", 1).due("of(0,6)", 0).due("run(0,0,1)", NONE);
    }

    private void settings() {
        says("SETTINGS: DEPTH (2 .. 12; 6),");
        setting(0, 2, 12, 6);
        on("").due("sets(0,2)", 6).due("count(2)", 100).due("sets(0,12)", 2).due("count(2)", 120);
        says("SPACE (1 .. 4; 2),");
        setting(1, 1, 4, 2);
        on("").due("sets(1,1)", 2).due("count(2)", 110).due("sets(1,4)", 1).due("count(2)", 104);
        says("CUT (0 .. 2; 0),");
        setting(2, 0, 2, 0);
        on("line(5) goes(0,0,5)").due("of(0,1)", 10).due("sets(2,2)", 0).due("of(0,1)", 8).due("sets(2,0)", 2)
            .due("of(0,1)", 10);
        says("TOLERANCE (0 .. 20; 0),");
        setting(3, 0, 20, 0);
        on("line(10) sets(4,40)").due("of(0,2)", 30).due("sets(3,20)", 0).due("of(0,2)", 10).due("sets(3,0)", 20)
            .due("of(0,2)", 30);
        says("TARGET (0 .. 999; 0),");
        setting(4, 0, 999, 0);
        on("line(9)").due("of(0,2)", 0).due("sets(4,999)", 0).due("of(0,2)", 990).due("sets(4,0)", 999)
            .due("of(0,2)", 0);
        says("PHASE (0 .. 6; 0),");
        setting(5, 0, 6, 0);
        on("line(9) goes(0,0,3) goes(0,0,3) goes(0,0,3) goes(0,1,3) goes(0,1,3) goes(0,1,3)").due("bumps(0)", NONE)
            .due("sets(5,6)", 0).due("bumps(0)", 0).due("sets(5,0)", 6).due("bumps(0)", NONE);
        says("NEAR (1 .. 9; 4).");
        setting(6, 1, 9, 4);
        on("line(9)").due("run(0,0,2)", 2).due("sets(6,1)", 4).due("run(0,0,2)", 9).due("sets(6,9)", 1)
            .due("run(0,0,2)", 1);
    }

    private void setting(int k, int low, int high, int first) {
        on("").due("setting(" + k + ")", first);
        range("", "sets(" + k + ",%)", low, high, first);
        on("").due("sets(" + k + "," + high + ")", first).due("setting(" + k + ")", high)
            .due("sets(" + k + "," + (high + 1) + ")", BAD).due("setting(" + k + ")", high)
            .due("sets(" + k + "," + low + ")", high).due("setting(" + k + ")", low)
            .due("sets(" + k + "," + (low - 1) + ")", BAD).due("setting(" + k + ")", low);
    }

    private void base() {
        says("BASE of a LINE: its RUNS together, less CUT for each TURN (0 at least).");
        on("line(1) goes(0,0,2) sets(2,2)").due("of(0,1)", 1).due("count(4)", 1).due("can(0)", 0).due("can(1)", 1);
        on("line(1) goes(0,0,1) sets(2,2)").due("of(0,1)", 0).due("count(4)", 0).due("can(0)", 1);
        on("line(1) goes(0,0,1) goes(0,1,1) sets(2,2)").due("of(0,1)", 0).due("count(4)", 0).due("least()", 0)
            .due("sets(4,2)", 0).due("of(0,2)", 2).due("sets(2,1)", 2).due("of(0,1)", 1);
        on("line(1) " + "goes(0,1,1) ".repeat(7)).due("of(0,1)", 8).due("sets(2,1)", 0).due("of(0,1)", 1)
            .due("sets(2,2)", 1).due("of(0,1)", 0).due("length(0)", 0);
        on("line(10) sets(2,2)").due("of(0,1)", 10).due("goes(0,0,1)", 2).due("of(0,1)", 9).due("goes(0,1,1)", 3)
            .due("of(0,1)", 8).due("shortens(0)", 2).due("of(0,1)", 9);
        on("line(60) " + "goes(0,1,60) ".repeat(7)).due("of(0,1)", 480).due("sets(2,2)", 0).due("of(0,1)", 466);
    }

    private void pockets() {
        says("POCKETS 0 on, as they come (never more than 6):");
        on("").due("count(1)", 0).due("about(0,0)", BAD).due("pocket(1,1)", 0).due("about(0,0)", 1)
            .due("about(1,0)", BAD).due("pocket(2,1)", 1).due("pocket(3,1)", 2).due("pocket(4,1)", 3)
            .due("pocket(5,1)", 4).due("pocket(6,1)", 5).due("count(1)", 6).due("pocket(7,1)", FULL)
            .due("count(1)", 6).due("about(5,0)", 6).due("about(6,0)", BAD).due("back()", 4).due("count(1)", 5)
            .due("about(5,0)", BAD).due("pocket(8,1)", 5).due("pocket(8,1)", FULL);
        says("WIDE w (1 .. 60),");
        range("", "pocket(%,1)", 1, 60, 0);
        range("pocket(9,1)", "widens(0,%)", 1, 60, 9);
        on("pocket(1,1)").due("about(0,0)", 1).due("widens(0,60)", 1).due("about(0,0)", 60).due("widens(0,1)", 60)
            .due("about(0,0)", 1);
        says("the LINES that TOUCH it (a set, bits 0 to 5; of LINES that are not there, too).");
        range("", "pocket(9,%)", 0, 63, 0);
        range("pocket(9,5)", "touches(0,%)", 0, 63, 5);
        on("pocket(9,32) line(1) line(2) line(3) line(4)").due("about(0,1)", 0).due("line(5)", 4).due("about(0,1)", 0)
            .due("line(6)", 5).due("about(0,1)", 32).due("of(5,4)", 1).due("of(4,4)", 0).due("back()", 4)
            .due("about(0,1)", 0).due("touches(0,63)", 32).due("about(0,1)", 31).due("line(7)", 5)
            .due("about(0,1)", 63);
        on("pocket(9,1)").due("about(0,1)", 0).due("touches(0,0)", 1).due("line(5)", 0).due("of(0,4)", 0)
            .due("touches(0,1)", 0).due("of(0,4)", 1);
    }

    private void humps() {
        says("HUMPS of a POCKET: (w + SPACE) / (2 * SPACE), cut.");
        int[][] wides = {{1, 2, 3, 4, 5, 58, 59, 60}, {1, 2, 3, 5, 6, 57, 58, 60}, {2, 3, 4, 8, 9, 56, 57, 60},
            {3, 4, 5, 11, 12, 59, 60}};
        int[][] many = {{1, 1, 2, 2, 3, 29, 30, 30}, {0, 1, 1, 1, 2, 14, 15, 15}, {0, 1, 1, 1, 2, 9, 10, 10},
            {0, 1, 1, 1, 2, 7, 8}};
        for (int space = 1; space <= 4; space++) {
            for (int i = 0; i < wides[space - 1].length; i++) {
                on(with("sets(1,%) ", space) + with("pocket(%,0)", wides[space - 1][i]))
                    .due("about(0,2)", many[space - 1][i]).due("count(5)", many[space - 1][i]);
            }
        }
    }

    private void gain() {
        says("GAIN of a HUMP: 2 * (DEPTH - SPACE) - 4 * CUT;");
        on("").due("count(2)", 108).due("sets(0,12)", 6).due("count(2)", 120).due("sets(1,1)", 2).due("count(2)", 122)
            .due("sets(2,1)", 0).due("count(2)", 118).due("sets(2,2)", 1).due("count(2)", 114).due("sets(0,2)", 12)
            .due("count(2)", 94).due("sets(1,4)", 1).due("count(2)", 88);
        says("below 2 none can be drawn at all: then HUMPS of all POCKETS are 0.");
        String two = "pocket(60,1) pocket(10,2) ";
        on(two + "sets(0,4)").due("count(2)", 104).due("about(0,2)", 15).due("about(1,2)", 3).due("count(5)", 18);
        on(two + "sets(0,3)").due("count(2)", 102).due("about(0,2)", 15).due("about(1,2)", 3).due("count(5)", 18);
        on(two + "sets(0,2)").due("count(2)", 100).due("about(0,2)", 0).due("about(1,2)", 0).due("count(5)", 0)
            .due("about(0,3)", 0);
        on(two + "sets(0,2) sets(1,3)").due("count(2)", 98).due("about(0,2)", 0).due("about(1,2)", 0);
        on(two + "sets(0,6) sets(2,2)").due("count(2)", 100).due("about(0,2)", 0).due("count(5)", 0);
        on(two + "sets(0,7) sets(2,2)").due("count(2)", 102).due("about(0,2)", 15).due("count(5)", 18);
        on(two + "line(20) sets(0,2)").due("can(20)", 1).due("can(21)", 0).due("greatest()", 20);
        on(two + "line(20) sets(0,3)").due("can(21)", 1).due("greatest()", 50).due("can(51)", 0);
    }

    private void lack() {
        says("By a length T: LACK of a LINE: T - TOLERANCE - BASE, up to the next even number, 0 at least.");
        int[] targets = {0, 18, 19, 20, 21, 22, 23, 24, 25};
        int[] lacks = {0, 0, 0, 0, 2, 2, 4, 4, 6};
        for (int tolerance : new int[] {0, 1, 5, 20}) {
            Run run = on("line(20)" + with("sets(3,%)", tolerance)).due("of(0,2)", 0);
            for (int i = 0; i < targets.length; i++) {
                int was = i == 0 ? 0 : targets[i - 1] + tolerance;
                run.due(with("sets(4,%)", targets[i] + tolerance), was).due("of(0,2)", lacks[i]);
            }
        }
        on("line(20) sets(4,999)").due("of(0,2)", 980).due("sets(3,1)", 0).due("of(0,2)", 978).due("sets(3,20)", 1)
            .due("of(0,2)", 960);
        on("line(20) line(21) sets(4,21)").due("of(0,2)", 2).due("of(1,2)", 0).due("sets(4,22)", 21).due("of(0,2)", 2)
            .due("of(1,2)", 2);
        on("line(20) pocket(2,1) sets(3,7)").due("can(35)", 1).due("can(36)", 0);
    }

    private void need() {
        says("NEED: LACK / GAIN, up to the next whole number");
        int[] targets = {0, 20, 21, 22, 27, 28, 29, 30, 36, 37};
        int[] needs = {0, 0, 1, 1, 1, 1, 2, 2, 2, 3};
        for (int i = 0; i < targets.length; i++) {
            on("line(20)" + with("sets(4,%)", targets[i])).due("of(0,3)", needs[i]).due("count(6)", needs[i]);
        }
        on("line(20) sets(0,3) sets(4,22)").due("of(0,3)", 1).due("sets(4,23)", 22).due("of(0,3)", 2)
            .due("sets(4,24)", 23).due("of(0,3)", 2).due("sets(4,999)", 24).due("of(0,3)", 490);
        on("line(20) sets(0,12) sets(1,1) sets(4,42)").due("of(0,3)", 1).due("sets(4,43)", 42).due("of(0,3)", 2)
            .due("sets(4,41)", 43).due("of(0,3)", 1);
        says("(LACK above 0 and GAIN below 2: 1000).");
        on("line(20) sets(0,2) sets(4,20)").due("count(2)", 100).due("of(0,2)", 0).due("of(0,3)", 0)
            .due("sets(4,21)", 20).due("of(0,2)", 2).due("of(0,3)", 1000).due("sets(0,3)", 2).due("count(2)", 102)
            .due("of(0,3)", 1).due("sets(0,2)", 3).due("sets(1,3)", 2).due("count(2)", 98).due("of(0,3)", 1000);
        on("line(20) line(21) sets(0,2) sets(4,20)").due("count(6)", 0).due("sets(4,21)", 20).due("count(6)", 1000)
            .due("sets(4,22)", 21).due("count(6)", 2000).due("sets(3,1)", 0).due("count(6)", 1000)
            .due("sets(3,2)", 1).due("count(6)", 0);
    }

    private void allCan() {
        says("ALL CAN: no HUMP for two LINES,");
        on("line(20) line(20) sets(4,28) pocket(5,3)").due("about(0,2)", 1).due("count(3)", 0).due("widens(0,6)", 5)
            .due("about(0,2)", 2).due("count(3)", 1).due("widens(0,10)", 6).due("count(3)", 1);
        on("line(20) line(20) sets(4,28) pocket(2,3) pocket(2,4)").due("count(3)", 0).due("touches(1,1)", 4)
            .due("count(3)", 1).due("touches(0,1)", 3).due("count(3)", 0).due("touches(1,2)", 1).due("count(3)", 1);
        says("each LINE as many as its NEED,");
        on("line(20) pocket(6,1) sets(4,28)").due("count(3)", 1).due("sets(4,36)", 28).due("of(0,3)", 2)
            .due("count(3)", 1).due("sets(4,37)", 36).due("of(0,3)", 3).due("count(3)", 0).due("widens(0,9)", 6)
            .due("count(3)", 0).due("widens(0,10)", 9).due("count(3)", 1);
        on("line(20) pocket(2,1) pocket(2,1) sets(4,36)").due("count(3)", 1).due("touches(1,0)", 1).due("count(3)", 0);
        says("of POCKETS that it TOUCHES;");
        on("line(20) sets(4,28) pocket(60,62)").due("count(3)", 0).due("touches(0,63)", 62).due("count(3)", 1)
            .due("touches(0,0)", 63).due("count(3)", 0).due("touches(0,1)", 0).due("count(3)", 1);
        on(FIVE_LINES + "line(10)").due("pocket(60,31)", 0).due("sets(4,11)", 0).due("count(3)", 0)
            .due("touches(0,63)", 31).due("count(3)", 1).due("touches(0,32)", 63).due("count(3)", 0);
        says("and no BASE is above T.");
        on("line(20) pocket(60,1) sets(4,19)").due("count(3)", 0).due("sets(4,20)", 19).due("count(3)", 1)
            .due("sets(4,21)", 20).due("count(3)", 1).due("can(19)", 0).due("can(20)", 1).due("can(21)", 1);
        on("line(20) line(30) pocket(60,3) sets(3,20) sets(4,29)").due("count(3)", 0).due("sets(4,30)", 29)
            .due("count(3)", 1).due("sets(4,31)", 30).due("count(3)", 1);
        on("").due("count(3)", 1).due("sets(4,999)", 0).due("count(3)", 1).due("line(60)", 0).due("count(3)", 0);
    }
}
