/** The terms of states and of refused calls. */
final class StateEdges extends Edges {
    private static final String TWO_LINES = "line(20) line(20) pocket(2,3) ";

    StateEdges(Book book) {
        super(book);
    }

    @Override
    void all() {
        leaving();
        keeping();
        most();
        refused();
        firstOf();
        byText();
    }

    private void says(String words) {
        says("Terms", words);
    }

    private void leaving() {
        says("STATES: each call told S, if it is not refused, leaves one,");
        leavesState("", "line(9)", 0);
        leavesState("line(9)", "goes(0,0,5)", 2);
        leavesState("line(9) goes(0,0,5)", "shortens(0)", 1);
        leavesState("", "pocket(9,1)", 0);
        leavesState("pocket(9,1)", "widens(0,8)", 9);
        leavesState("pocket(9,1)", "touches(0,8)", 1);
        leavesState("", "sets(4,8)", 0);
        on("").types("l9;").due("does()", 1).due("told(4)", 1).due("back()", 0).due("count(0)", 0);
        on("line(9)").due("told(4)", 1).due("line(0)", BAD).due("goes(1,0,5)", BAD).due("shortens(0)", NO)
            .due("pocket(0,1)", BAD).due("widens(0,1)", BAD).due("touches(0,1)", BAD).due("sets(7,1)", BAD)
            .due("told(4)", 1).due("back()", 0).due("back()", NO);
        on(SIX_LINES).due("line(9)", FULL).due("told(4)", 5).due("back()", 4).due("count(0)", 5);
        says("also if nothing becomes other by it,");
        leavesState("pocket(9,1)", "widens(0,9)", 9);
        leavesState("pocket(9,1)", "touches(0,1)", 1);
        for (int k = 0; k < 7; k++) {
            int first = new SnakedBus().setting(k);
            leavesState("", "sets(" + k + "," + first + ")", first);
        }
        on("").types("s4 0;").due("does()", 1).due("told(4)", 1).due("does()", 1).due("told(4)", 2)
            .due("back()", 1).due("back()", 0).due("back()", NO);
    }

    private void keeping() {
        says("to go back to (all but THE TEXT and how often refused),");
        on("line(9)").types("l5;").due("line(0)", BAD).due("shortens(0)", NO).due("back()", 0).due("count(0)", 0)
            .due("told(0)", 1).due("told(1)", 1).due("told(3)", 3).due("does()", 1).due("clear()", 3)
            .due("back()", 0).due("told(3)", 0).due("told(0)", 1);
        on("").types("l5;").due("sets(4,9)", 0).due("clear()", 3).due("back()", 0).due("told(3)", 0);
        on(SIX_LINES).due("line(9)", FULL).due("back()", 4).due("told(2)", 1);
        on("line(9) goes(0,1,8) pocket(7,5) sets(3,6)").due("back()", 3).due("setting(3)", 0).due("back()", 2)
            .due("count(1)", 0).due("back()", 1).due("of(0,0)", 1).due("goes(0,0,4)", 2).due("run(0,1,0)", 4)
            .due("run(0,1,1)", 0).due("back()", 1).due("back()", 0).due("count(0)", 0);
        on("line(9) goes(0,1,8) shortens(0)").due("back()", 2).due("run(0,1,0)", 8).due("run(0,1,1)", 1);
        on("line(9) goes(0,1,8) shortens(0) goes(0,0,7)").due("back()", 3).due("back()", 2).due("run(0,1,0)", 8)
            .due("run(0,1,1)", 1);
        on("pocket(7,5) touches(0,6) widens(0,8)").due("back()", 2).due("about(0,0)", 7).due("back()", 1)
            .due("touches(0,0)", 5);
    }

    private void most() {
        says("5 at most, older ones lost.");
        on("sets(4,1) sets(4,2) sets(4,3)").due("sets(4,4)", 3).due("told(4)", 4).due("sets(4,5)", 4)
            .due("told(4)", 5).due("sets(4,6)", 5).due("told(4)", 5).due("back()", 4).due("setting(4)", 5)
            .due("back()", 3).due("back()", 2).due("back()", 1).due("back()", 0).due("setting(4)", 1)
            .due("back()", NO).due("setting(4)", 1);
        on("sets(4,1) sets(4,2) sets(4,3) sets(4,4) sets(4,5)").due("back()", 4).due("back()", 3).due("back()", 2)
            .due("back()", 1).due("back()", 0).due("setting(4)", 0).due("back()", NO);
        on("sets(4,1) sets(4,2) sets(4,3) sets(4,4)").due("back()", 3).due("back()", 2).due("back()", 1)
            .due("back()", 0).due("setting(4)", 0).due("back()", NO);
        StringBuilder many = new StringBuilder();
        for (int i = 1; i <= 13; i++) {
            many.append(with("sets(4,%) ", i));
        }
        on(many.toString()).due("told(4)", 5).due("back()", 4).due("back()", 3).due("setting(4)", 11)
            .due("sets(4,50)", 11).due("told(4)", 4).due("sets(4,51)", 50).due("sets(4,52)", 51).due("told(4)", 5)
            .due("back()", 4).due("back()", 3).due("back()", 2).due("setting(4)", 11).due("back()", 1)
            .due("setting(4)", 10).due("back()", 0).due("setting(4)", 9).due("back()", NO);
    }

    private void refused() {
        says("Refused (any call, getters, too), changing nothing but how often,");
        String[] bad = {"line(0)", "goes(2,0,5)", "shortens(2)", "pocket(0,1)", "widens(1,5)", "touches(1,5)",
            "sets(7,0)", "of(2,0)", "run(2,0,0)", "about(1,0)", "setting(7)", "count(7)", "draws(2,0)", "length(2)",
            "can(1000)", "bumps(2)", "skew(2,0)", "type(128)", "told(5)"};
        Run all = on(TWO_LINES);
        for (int i = 0; i < bad.length; i++) {
            on(TWO_LINES).due("told(0)", 0).due(bad[i], BAD).due("told(0)", 1).due(bad[i], BAD).due("told(0)", 2)
                .due("told(1)", 0).due("told(2)", 0).due("told(4)", 3);
            all.due(bad[i], BAD).due("told(0)", i + 1);
        }
        String[] no = {"shortens(0)", "draws(0,0)", "length(0)"};
        for (String call : no) {
            on(TWO_LINES).due(call, NO).due("told(1)", 1).due(call, NO).due("told(1)", 2).due("told(0)", 0)
                .due("told(2)", 0);
        }
        on("").due("more()", NO).due("told(1)", 1).due("back()", NO).due("told(1)", 2).due("told(0)", 0);
        on(SIX_LINES).due("line(9)", FULL).due("told(2)", 1).due("told(0)", 0).due("told(1)", 0).due("line(9)", FULL)
            .due("told(2)", 2);
        on(SIX_POCKETS).due("pocket(9,1)", FULL).due("told(2)", 1);
        on(EIGHT_RUNS).due("goes(0,0,5)", FULL).due("told(2)", 1);
        on("").types(" ".repeat(120)).due("type(32)", FULL).due("told(2)", 1);
        // NONE is an answer.
        on("line(20) pocket(1,1)").due("run(0,0,1)", NONE).due("about(0,3)", NONE).due("more()", NONE)
            .due("goes(0,0,3)", 2).due("bumps(0)", NONE).due("line(24)", 1).due("least()", NONE)
            .due("greatest()", NONE).due("told(0)", 0).due("told(1)", 0).due("told(2)", 0);
    }

    private void firstOf() {
        says("the first of: BAD -2 a number is not as told; NO -3, FULL -4 as told.");
        check(BAD == -2 && NO == -3 && FULL == -4, "the constants");
        on(SIX_LINES).due("line(61)", BAD).due("line(0)", BAD).due("line(60)", FULL);
        on(EIGHT_RUNS).due("goes(1,0,5)", BAD).due("goes(0,2,5)", BAD).due("goes(0,0,61)", BAD)
            .due("goes(0,0,60)", FULL);
        on(SIX_POCKETS).due("pocket(0,1)", BAD).due("pocket(9,64)", BAD).due("pocket(9,63)", FULL);
        on("").types(" ".repeat(120)).due("type(128)", BAD).due("type(-1)", BAD).due("type(127)", FULL);
        on(TWO_LINES + "sets(4,29)").due("draws(2,0)", BAD).due("draws(0,1)", BAD).due("draws(1,0)", NO)
            .due("length(2)", BAD).due("length(1)", NO).due("shortens(2)", BAD).due("shortens(1)", NO)
            .due("told(0)", 4).due("told(1)", 3);
        on("").due("draws(0,0)", BAD).due("length(0)", BAD).due("shortens(0)", BAD);
    }

    private void byText() {
        says("By THE TEXT nothing counts.");
        on("").types("l0;").due("does()", -1000).due("told(0)", 0).due("line(0)", BAD).due("told(0)", 1);
        on(SIX_LINES).types("l9;").due("does()", -1000).due("told(2)", 0).due("line(9)", FULL).due("told(2)", 1);
        on("").types("x").due("does()", -10).due("told(0)", 0).due("told(1)", 0).due("told(2)", 0);
        on("").due("does()", -10).due("told(0)", 0).due("told(1)", 0).due("told(2)", 0).due("told(4)", 0);
    }
}
