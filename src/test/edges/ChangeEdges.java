/** The promises of the calls that change something: 1 to 8, 23 to 27. */
final class ChangeEdges extends Edges {
    ChangeEdges(Book book) {
        super(book);
    }

    @Override
    void all() {
        aNewObject();
        line();
        goes();
        shortens();
        pocket();
        widens();
        touches();
        sets();
        type();
        clear();
        does();
        back();
        told();
    }

    private void aNewObject() {
        says(1, "As told; no LINES, no POCKETS.");
        on("").due("count(0)", 0).due("count(1)", 0).due("setting(0)", 6).due("setting(1)", 2).due("setting(2)", 0)
            .due("setting(3)", 0).due("setting(4)", 0).due("setting(5)", 0).due("setting(6)", 4).due("told(0)", 0)
            .due("told(1)", 0).due("told(2)", 0).due("told(3)", 0).due("told(4)", 0).due("back()", NO)
            .due("does()", -10).due("clear()", 0).due("of(0,0)", BAD).due("about(0,0)", BAD).due("more()", NO);
        SnakedBus one = new SnakedBus();
        SnakedBus other = new SnakedBus();
        one.line(9);
        one.sets(4, 9);
        check(other.count(0) == 0 && other.setting(4) == 0, "two objects share something");
    }

    private void line() {
        says(2, "A new LINE with one RUN, LONG a: its number.");
        on("").due("line(1)", 0).due("of(0,0)", 1).due("run(0,0,0)", 1).due("run(0,1,0)", BAD).due("line(60)", 1)
            .due("of(1,0)", 1).due("run(1,0,0)", 60).due("run(1,1,0)", BAD).due("run(0,0,0)", 1);
        on("line(9) goes(0,1,8)").due("back()", 1).due("back()", 0).due("line(7)", 0).due("of(0,0)", 1)
            .due("of(0,1)", 7);
        says(2, "S.");
        leavesState("", "line(9)", 0);
        says(2, "BAD;");
        range("", "line(%)", 1, 60, 0);
        range(FIVE_LINES, "line(%)", 1, 60, 5);
        says(2, "FULL: 6.");
        on(FIVE_LINES).due("line(9)", 5).due("line(9)", FULL).due("count(0)", 6).due("line(61)", BAD);
    }

    private void goes() {
        says(3, "LINE l has a TURN t, then a RUN, LONG a, more: how many RUNS.");
        on("line(9) line(8)").due("goes(1,0,1)", 2).due("goes(1,1,60)", 3).due("of(0,0)", 1).due("of(1,0)", 3)
            .due("run(1,0,0)", 8).due("run(1,1,0)", 1).due("run(1,1,1)", 0).due("run(1,2,0)", 60)
            .due("run(1,2,1)", 1).due("goes(0,1,7)", 2).due("run(1,1,0)", 1);
        says(3, "S.");
        leavesState("line(9)", "goes(0,1,9)", 2);
        says(3, "BAD;");
        on("").due("goes(0,0,5)", BAD);
        range("line(9) line(8)", "goes(%,0,5)", 0, 1, 2);
        range(SIX_LINES, "goes(%,0,5)", 0, 5, 2);
        range("line(9)", "goes(0,%,5)", 0, 1, 2);
        range("line(9)", "goes(0,1,%)", 1, 60, 2);
        says(3, "FULL: 8.");
        on(SEVEN_RUNS).due("goes(0,0,9)", 8).due("goes(0,0,9)", FULL).due("of(0,0)", 8).due("goes(0,0,61)", BAD)
            .due("line(5)", 1).due("goes(1,0,9)", 2);
        Run last = on("line(1) ".repeat(6) + "goes(5,0,2) ".repeat(6));
        last.due("goes(5,1,3)", 8).due("goes(5,1,3)", FULL).due("run(5,7,0)", 3).due("of(5,1)", 16).due("of(4,1)", 1);
    }

    private void shortens() {
        says(4, "The last RUN of LINE l goes, with the TURN ahead of it: how many are left.");
        on("line(9) goes(0,0,8) goes(0,1,7) line(3) goes(1,1,4)").due("shortens(0)", 2).due("of(0,1)", 17)
            .due("of(0,5)", 0).due("of(0,6)", 1).due("run(0,2,0)", BAD).due("of(1,0)", 2).due("shortens(0)", 1)
            .due("of(0,1)", 9).due("of(0,6)", 0).due("goes(0,1,6)", 2).due("run(0,1,0)", 6).due("run(0,1,1)", 1);
        on(EIGHT_RUNS).due("shortens(0)", 7).due("goes(0,1,9)", 8).due("goes(0,1,9)", FULL);
        says(4, "S.");
        leavesState("line(9) goes(0,1,8)", "shortens(0)", 1);
        says(4, "BAD;");
        on("").due("shortens(0)", BAD);
        range("line(9) goes(0,1,8) line(9) goes(1,1,8)", "shortens(%)", 0, 1, 1);
        says(4, "NO: it has one alone.");
        on("line(9) goes(0,1,8)").due("shortens(0)", 1).due("shortens(0)", NO).due("of(0,0)", 1).due("told(1)", 1)
            .due("told(4)", 3);
    }

    private void pocket() {
        says(5, "A new POCKET: its number.");
        on("line(9)").due("pocket(1,0)", 0).due("pocket(60,63)", 1).due("about(0,0)", 1).due("about(0,1)", 0)
            .due("about(1,0)", 60).due("about(1,1)", 1).due("of(0,4)", 2);
        says(5, "S.");
        leavesState("", "pocket(9,1)", 0);
        says(5, "BAD;");
        range("", "pocket(%,1)", 1, 60, 0);
        range("", "pocket(9,%)", 0, 63, 0);
        range(FIVE_POCKETS, "pocket(9,%)", 0, 63, 5);
        says(5, "FULL: 6.");
        on(FIVE_POCKETS).due("pocket(9,1)", 5).due("pocket(9,1)", FULL).due("count(1)", 6).due("pocket(61,1)", BAD);
    }

    private void widens() {
        says(6, "POCKET p is WIDE w: what it was.");
        on("pocket(9,1) pocket(8,1)").due("widens(1,60)", 8).due("about(1,0)", 60).due("about(0,0)", 9)
            .due("widens(1,1)", 60).due("about(1,0)", 1).due("widens(1,1)", 1).due("widens(0,5)", 9);
        says(6, "S.");
        leavesState("pocket(9,1)", "widens(0,8)", 9);
        says(6, "BAD.");
        on("").due("widens(0,5)", BAD);
        range(SIX_POCKETS, "widens(%,5)", 0, 5, 10);
        range("pocket(9,1) pocket(9,1)", "widens(%,5)", 0, 1, 9);
        range("pocket(9,1)", "widens(0,%)", 1, 60, 9);
    }

    private void touches() {
        says(7, "LINES that TOUCH POCKET p become v (bits): what they were.");
        on("line(9) pocket(9,1) pocket(8,2)").due("touches(1,63)", 2).due("about(1,1)", 1).due("of(0,4)", 3)
            .due("touches(1,0)", 63).due("about(1,1)", 0).due("of(0,4)", 1).due("touches(1,32)", 0)
            .due("touches(1,32)", 32).due("touches(0,0)", 1).due("of(0,4)", 0);
        says(7, "S.");
        leavesState("pocket(9,1)", "touches(0,2)", 1);
        says(7, "BAD.");
        on("").due("touches(0,5)", BAD);
        range(SIX_POCKETS, "touches(%,5)", 0, 5, 1);
        range("pocket(9,3) pocket(9,3)", "touches(%,5)", 0, 1, 3);
        range("pocket(9,3)", "touches(0,%)", 0, 63, 3);
    }

    private void sets() {
        says(8, "SETTING k (0 DEPTH, 1 SPACE, 2 CUT, 3 TOLERANCE, 4 TARGET, 5 PHASE, 6 NEAR) becomes v: what it was.");
        int[] first = {6, 2, 0, 0, 0, 0, 4};
        int[] low = {2, 1, 0, 0, 0, 0, 1};
        int[] high = {12, 4, 2, 20, 999, 6, 9};
        Run all = on("");
        for (int k = 0; k < 7; k++) {
            all.due("sets(" + k + "," + high[k] + ")", first[k]).due("sets(" + k + "," + high[k] + ")", high[k]);
        }
        for (int k = 0; k < 7; k++) {
            all.due("setting(" + k + ")", high[k]);
        }
        says(8, "S.");
        leavesState("", "sets(6,9)", 4);
        says(8, "BAD.");
        for (int k = 0; k < 7; k++) {
            range("", "sets(" + k + ",%)", low[k], high[k], first[k]);
        }
        for (int k : new int[] {-1, 7, LOWEST, HIGHEST}) {
            for (int v = 0; v <= 4; v++) {
                on("").due("sets(" + k + "," + v + ")", BAD);
            }
        }
        on("").due("sets(6,1)", 4).due("sets(0,2)", 6);
    }

    private void type() {
        says(23, "A byte (0 .. 127) comes behind THE TEXT: how many it has.");
        range("", "type(%)", 0, 127, 1);
        range("type(108)", "type(%)", 0, 127, 2);
        on("").due("type(108)", 1).due("type(53)", 2).due("type(59)", 3).due("does()", 1).due("of(0,1)", 5)
            .due("type(108)", 4).due("type(54)", 5).due("type(59)", 6).due("does()", 2).due("of(2,1)", 6);
        says(23, "BAD;");
        on("").due("type(-1)", BAD).due("type(128)", BAD).due("type(0)", 1).due("type(127)", 2).due("told(3)", 2)
            .due("told(0)", 2).due("does()", -10);
        says(23, "FULL: 120.");
        on("").types(" ".repeat(119)).due("type(32)", 120).due("type(32)", FULL).due("told(3)", 120)
            .due("type(128)", BAD).due("told(2)", 1).due("told(4)", 0);
    }

    private void clear() {
        says(24, "THE TEXT is empty: how many it had.");
        on("").due("clear()", 0).due("type(108)", 1).due("clear()", 1).due("told(3)", 0).due("clear()", 0)
            .due("told(4)", 0).due("does()", -10);
        on("").types(" ".repeat(120)).due("clear()", 120).due("told(3)", 0).due("type(32)", 1);
        on("").types("l5;").due("clear()", 3).types("s4 7;").due("does()", 1).due("count(0)", 0)
            .due("setting(4)", 7);
    }

    private void does() {
        says(25, "ORDERS are done (THE TEXT stays): how many.");
        on("").types("l9;").due("does()", 1).due("told(3)", 3).due("count(0)", 1).due("does()", 1).due("count(0)", 2)
            .due("told(3)", 3);
        on("").types("l9;g0 1 8;k7 5;s4 6;w0 5;").due("does()", 5).due("of(0,1)", 17).due("about(0,0)", 5)
            .due("setting(4)", 6).due("touches(0,0)", 5);
        on("").types("s4 1;".repeat(24)).due("does()", 24);
        on("line(1)").types("g0 0 1;".repeat(7)).due("does()", 7).due("of(0,0)", 8).due("does()", -1000);
        says(25, "S (one STATE for all).");
        on("").types("l9;l8;l7;").due("does()", 3).due("told(4)", 1).due("back()", 0).due("count(0)", 0)
            .due("back()", NO);
        on("sets(4,1) sets(4,2) sets(4,3) sets(4,4)").types("l9;l8;").due("does()", 2).due("told(4)", 5)
            .due("does()", 2).due("told(4)", 5).due("back()", 4).due("count(0)", 2).due("back()", 3)
            .due("count(0)", 0).due("setting(4)", 4);
        says(25, "-10 less the FAULT (no S);");
        on("line(9)").due("does()", -10).due("told(4)", 1).types("l").due("does()", -11).types("12345")
            .due("does()", -14).due("told(4)", 1).due("count(0)", 1).due("clear()", 6).types("l5;x")
            .due("does()", -13).due("count(0)", 1).due("told(4)", 1).due("back()", 0);
        on("").types(" ".repeat(119)).due("does()", -129).due("type(32)", 120).due("does()", -130);
        says(25, "-1000 less the number (0 on) of the ORDER that ends all (no S).");
        on("line(9)").types("l0;").due("does()", -1000).due("told(4)", 1).due("clear()", 3).types("l1;l0;")
            .due("does()", -1001).due("count(0)", 1).due("told(4)", 1).due("back()", 0);
        on("").types("l1;".repeat(40)).due("does()", -1006).due("count(0)", 0);
        on("").types("s4 1;".repeat(23) + "s4 2;").due("does()", 24);
        on("").types("s4 1;".repeat(23) + "s7 2;").due("does()", -1023).due("setting(4)", 0);
    }

    private void back() {
        says(26, "A STATE back: how many can be yet.");
        on("line(9)").due("back()", 0).due("count(0)", 0).due("told(4)", 0);
        on("line(9) line(8)").due("back()", 1).due("count(0)", 1).due("back()", 0).due("count(0)", 0);
        on(SIX_LINES).due("back()", 4).due("back()", 3).due("back()", 2).due("back()", 1).due("back()", 0)
            .due("count(0)", 1);
        on("line(9) line(8)").due("back()", 1).due("line(7)", 1).due("told(4)", 2).due("back()", 1)
            .due("back()", 0).due("back()", NO);
        on("line(20) pocket(2,1) sets(4,28) sets(4,29)").due("draws(0,0)", NO).due("back()", 3).due("draws(0,0)", 1)
            .due("blocked()", 0);
        says(26, "NO: none.");
        on("").due("back()", NO).due("told(1)", 1).due("line(9)", 0).due("back()", 0).due("back()", NO)
            .due("told(1)", 2);
        on(SIX_LINES).due("back()", 4).due("back()", 3).due("back()", 2).due("back()", 1).due("back()", 0)
            .due("back()", NO).due("count(0)", 1);
    }

    private void told() {
        says(27, "How often refused: BAD (0), NO (1), FULL (2);");
        on("").due("told(0)", 0).due("told(1)", 0).due("told(2)", 0).due("line(0)", BAD).due("told(0)", 1)
            .due("back()", NO).due("told(1)", 1).due("told(0)", 1).due("told(2)", 0).due("more()", NO)
            .due("told(1)", 2);
        on(SIX_LINES).due("line(9)", FULL).due("told(2)", 1).due("told(0)", 0).due("told(1)", 0);
        says(27, "bytes of THE TEXT (3),");
        on("").due("told(3)", 0).due("type(32)", 1).due("told(3)", 1).due("type(128)", BAD).due("told(3)", 1)
            .due("clear()", 1).due("told(3)", 0);
        on("").types(" ".repeat(119)).due("told(3)", 119).due("type(32)", 120).due("told(3)", 120)
            .due("type(32)", FULL).due("told(3)", 120);
        says(27, "STATES (4).");
        on("").due("told(4)", 0).due("line(9)", 0).due("told(4)", 1).due("line(0)", BAD).due("told(4)", 1)
            .due("back()", 0).due("told(4)", 0);
        on("line(9) line(9) line(9)").due("line(9)", 3).due("told(4)", 4).due("line(9)", 4).due("told(4)", 5)
            .due("line(9)", 5).due("told(4)", 5);
        says(27, "BAD.");
        on("").due("told(-1)", BAD).due("told(5)", BAD).due("told(4)", 0).due("told(0)", 2)
            .due(with("told(%)", LOWEST), BAD).due(with("told(%)", HIGHEST), BAD).due("told(0)", 4);
    }
}
