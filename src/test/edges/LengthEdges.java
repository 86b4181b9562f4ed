/** The terms of who draws what, who is in the way, of the least and the greatest length, and of bumps. */
final class LengthEdges extends Edges {
    LengthEdges(Book book) {
        super(book);
    }

    @Override
    void all() {
        drawn();
        firstWay();
        drawnLength();
        blocked();
        leastAndGreatest();
        freeAndMore();
        skew();
        inPhase();
        fewest();
    }

    private void says(String words) {
        says("Terms", words);
    }

    private void drawn() {
        says("DRAWN, if ALL CAN by TARGET: of each LINE and POCKET how many HUMPS it draws there,");
        on("line(20) pocket(6,1) sets(4,36)").due("draws(0,0)", 2).due("sets(4,37)", 36).due("draws(0,0)", NO)
            .due("sets(4,20)", 37).due("draws(0,0)", 0).due("sets(4,19)", 20).due("draws(0,0)", NO);
        says("none in those that it does not TOUCH,");
        on("line(20) pocket(60,62) pocket(2,1) sets(4,28)").due("draws(0,0)", 0).due("draws(0,1)", 1)
            .due("touches(0,63)", 62).due("draws(0,0)", 1).due("draws(0,1)", 0);
        says("of each LINE as many as its NEED,");
        on("line(20) pocket(6,1) pocket(6,1) sets(4,44)").due("draws(0,0)", 2).due("draws(0,1)", 1)
            .due("sets(4,36)", 44).due("draws(0,0)", 2).due("draws(0,1)", 0).due("sets(4,52)", 36)
            .due("draws(0,1)", 2).due("sets(4,21)", 52).due("draws(0,0)", 1).due("sets(4,20)", 21)
            .due("draws(0,0)", 0).due("draws(0,1)", 0);
        says("of each POCKET HUMPS at most:");
        on("line(20) line(20) pocket(6,3) pocket(6,3) sets(4,36)").due("draws(0,0)", 2).due("draws(0,1)", 0)
            .due("draws(1,0)", 0).due("draws(1,1)", 2).due("widens(0,9)", 6).due("draws(1,0)", 0)
            .due("widens(0,10)", 9).due("draws(1,0)", 1).due("draws(1,1)", 1);
        on("line(20) pocket(1,1) pocket(2,1) sets(4,28)").due("about(0,2)", 0).due("draws(0,0)", 0)
            .due("draws(0,1)", 1).due("widens(0,2)", 1).due("draws(0,0)", 1).due("draws(0,1)", 0);
    }

    private void firstWay() {
        says("of all such ways the first: the most of LINE 0 in POCKET 0, then in POCKET 1, and so on, then of LINE 1, "
            + "and so on.");
        // As many as all later lines leave, and not one less.
        on("line(20) line(28) pocket(6,3) pocket(6,1) sets(4,36)").due("draws(0,0)", 1).due("draws(0,1)", 1)
            .due("draws(1,0)", 1).due("draws(1,1)", 0).due("sets(4,28)", 36).due("draws(0,0)", 1).due("draws(0,1)", 0);
        on("line(20) line(36) pocket(6,3) pocket(6,1) sets(4,36)").due("draws(0,0)", 2).due("draws(0,1)", 0);
        // A later line gives way for a still later one.
        String chain = "pocket(2,3) pocket(2,6) pocket(2,1) sets(4,28)";
        on("line(20) line(20) line(20)" + chain).due("draws(0,0)", 0).due("draws(0,2)", 1).due("draws(1,0)", 1)
            .due("draws(1,1)", 0).due("draws(2,1)", 1);
        on("line(20) line(20) line(28)" + chain).due("draws(0,0)", 1).due("draws(0,2)", 0).due("draws(1,0)", 0)
            .due("draws(1,1)", 1).due("draws(2,1)", 0);
        // Of line 0 all pockets come ahead of line 1.
        on("line(20) line(20) pocket(2,2) pocket(2,3) pocket(2,3) sets(4,28)").due("draws(0,0)", 0)
            .due("draws(0,1)", 1).due("draws(0,2)", 0).due("draws(1,0)", 1).due("draws(1,1)", 0).due("draws(1,2)", 0);
        on("line(20) line(20) pocket(2,3) pocket(2,3) pocket(2,3) sets(4,36)").due("draws(0,0)", NO)
            .due("pocket(2,3)", 3).due("draws(0,0)", 1).due("draws(0,1)", 1).due("draws(0,2)", 0)
            .due("draws(1,2)", 1).due("draws(1,3)", 1);
        // Six lines and six pockets, line l in pockets l and l + 1; the last one in its own alone.
        StringBuilder six = new StringBuilder("line(20) ".repeat(6));
        for (int p = 0; p < 6; p++) {
            six.append(with("pocket(2,%) ", (1 << p | 1 << p >> 1) & 63));
        }
        Run last = on(six + "sets(4,28)");
        for (int l = 0; l < 6; l++) {
            last.due("draws(" + l + "," + l + ")", 1);
        }
        last.due("draws(0,1)", 0).due("draws(4,5)", 0).due("touches(0,32)", 1).due("draws(5,0)", 1)
            .due("draws(0,1)", 1).due("draws(4,5)", 1).due("draws(5,5)", 0);
    }

    private void drawnLength() {
        says("LENGTH of a LINE then: BASE and LACK (its last HUMP is drawn less deep).");
        int[] targets = {20, 21, 22, 23, 27, 28, 29, 30};
        int[] lengths = {20, 22, 22, 24, 28, 28, 30, 30};
        for (int i = 0; i < targets.length; i++) {
            on("line(20) pocket(60,1)" + with("sets(4,%)", targets[i])).due("length(0)", lengths[i]);
        }
        on("line(20) pocket(60,1) sets(3,4) sets(4,24)").due("length(0)", 20).due("sets(4,25)", 24).due("length(0)", 22)
            .due("sets(4,23)", 25).due("length(0)", 20);
        on("line(20) pocket(2,1) sets(4,19)").due("length(0)", NO).due("sets(4,28)", 19).due("length(0)", 28)
            .due("sets(4,29)", 28).due("length(0)", NO);
    }

    private void blocked() {
        says("BLOCKED, if ALL can not by TARGET: a set of LINES:");
        on("line(20) pocket(2,1) sets(4,28)").due("blocked()", 0).due("sets(4,29)", 28).due("blocked()", 1)
            .due("sets(4,20)", 29).due("blocked()", 0).due("sets(4,19)", 20).due("blocked()", 1);
        says("if the BASE of some is above TARGET, all of these;");
        on("line(10) line(20) line(30) sets(4,9)").due("blocked()", 7).due("sets(4,10)", 9).due("blocked()", 6)
            .due("sets(4,11)", 10).due("blocked()", 6).due("sets(4,19)", 11).due("blocked()", 6)
            .due("sets(4,20)", 19).due("blocked()", 4).due("sets(4,29)", 20).due("blocked()", 4)
            .due("sets(4,30)", 29).due("blocked()", 1);
        on("line(11) line(10) line(11) line(10) line(11) line(11) sets(3,20) sets(4,10)").due("blocked()", 0b110101)
            .due("sets(4,11)", 10).due("blocked()", 0);
        says("else of all sets whose NEEDS together are more than the HUMPS of all POCKETS that some of them TOUCH,");
        on("line(20) line(20) pocket(2,1) pocket(2,3) sets(4,28)").due("blocked()", 0).due("touches(1,1)", 3)
            .due("blocked()", 2).due("touches(1,3)", 1).due("sets(4,29)", 28).due("blocked()", 2)
            .due("widens(1,6)", 2).due("blocked()", 3).due("widens(1,10)", 6).due("blocked()", 0);
        on(SIX_LINES + "pocket(18,63) sets(4,18)").due("about(0,2)", 5).due("blocked()", 63).due("widens(0,22)", 18)
            .due("about(0,2)", 6).due("blocked()", 0).due("widens(0,14)", 22).due("blocked()", 31);
        says("the one with the fewest LINES,");
        on("line(20) line(20) line(20) pocket(2,3) pocket(2,4) sets(4,28)").due("blocked()", 3).due("widens(1,1)", 2)
            .due("blocked()", 4).due("touches(0,7)", 3).due("blocked()", 3);
        on("line(20) line(20) line(20) line(20) line(20) pocket(6,7) pocket(2,24) sets(4,28)").due("blocked()", 24)
            .due("widens(1,6)", 2).due("blocked()", 7).due("widens(0,10)", 6).due("blocked()", 0);
        says("of like ones the least as bits.");
        on("line(20) line(20) line(20) line(20) pocket(2,9) pocket(2,6) sets(4,28)").due("blocked()", 6)
            .due("widens(1,6)", 2).due("blocked()", 9).due("widens(0,6)", 2).due("blocked()", 0);
        on(SIX_LINES + "sets(4,18)").due("blocked()", 1).due("pocket(2,1)", 0).due("blocked()", 2)
            .due("pocket(60,62)", 1).due("blocked()", 0).due("touches(1,30)", 62).due("blocked()", 32);
    }

    private void leastAndGreatest() {
        says("LEAST: the least T (0 .. 999) by which ALL CAN;");
        on("").due("least()", 0).due("can(0)", 1);
        on("line(1)").due("least()", 1).due("can(0)", 0).due("can(1)", 1);
        on("line(1) goes(0,0,1) sets(2,2)").due("least()", 0);
        on("line(20) line(24) pocket(2,1)").due("least()", 24).due("can(23)", 0).due("can(24)", 1)
            .due("widens(0,1)", 2).due("least()", NONE).due("can(24)", 0).due("sets(3,4)", 0).due("least()", 24)
            .due("sets(3,3)", 4).due("least()", NONE);
        on("line(60) " + "goes(0,1,60) ".repeat(7)).due("least()", 480).due("can(479)", 0).due("can(480)", 1);
        says("GREATEST the greatest.");
        on("").due("greatest()", 999).due("can(999)", 1);
        on("line(20)").due("greatest()", 20).due("can(21)", 0).due("pocket(2,1)", 0).due("greatest()", 28)
            .due("can(28)", 1).due("can(29)", 0).due("sets(3,3)", 0).due("greatest()", 31).due("can(31)", 1)
            .due("can(32)", 0);
        on("line(20) line(28) pocket(2,1)").due("greatest()", 28).due("line(29)", 2).due("greatest()", NONE)
            .due("back()", 3).due("sets(4,5)", 0).due("greatest()", 28);
        // 42 humps of 22 each: 924 more.
        String humps = "sets(0,12) sets(1,1) pocket(60,1) pocket(23,1) line(60)";
        on(humps + "goes(0,0,13)").due("greatest()", 997).due("can(997)", 1).due("can(998)", 0);
        on(humps + "goes(0,0,14)").due("greatest()", 998).due("can(998)", 1).due("can(999)", 0);
        on(humps + "goes(0,0,15)").due("greatest()", 999).due("can(999)", 1).due("can(1000)", BAD);
        on(humps + "goes(0,0,16)").due("greatest()", 999).due("can(999)", 1);
    }

    private void freeAndMore() {
        says("FREE of a POCKET: its HUMPS less those that are DRAWN in it.");
        on("line(20) line(20) pocket(10,3) sets(4,20)").due("about(0,3)", 3).due("sets(4,21)", 20).due("about(0,3)", 1)
            .due("sets(4,28)", 21).due("about(0,3)", 1).due("sets(4,29)", 28).due("about(0,3)", NONE)
            .due("widens(0,14)", 10).due("about(0,3)", 0).due("sets(4,19)", 29).due("about(0,3)", NONE);
        on("line(20) pocket(6,1) pocket(6,2) pocket(6,1) sets(4,44)").due("about(0,3)", 0).due("about(1,3)", 2)
            .due("about(2,3)", 1).due("sets(0,2)", 6).due("about(0,3)", NONE).due("sets(4,20)", 44)
            .due("about(0,3)", 0);
        says("MORE: the least POCKET by which, had it one HUMP more, ALL would CAN by TARGET (they can not now);");
        on("line(20) line(20) pocket(2,4) pocket(2,3) pocket(1,2) sets(4,28)").due("more()", 1)
            .due("touches(1,1)", 3).due("more()", 2).due("touches(0,2)", 4).due("more()", NO)
            .due("widens(0,1)", 2).due("more()", 0);
        on("line(20) pocket(2,1) sets(4,28)").due("more()", NO).due("sets(4,29)", 28).due("more()", 0)
            .due("sets(4,36)", 29).due("more()", 0).due("sets(4,37)", 36).due("more()", NONE);
        on(FIVE_LINES + "line(10) " + "pocket(1,0) ".repeat(4)).due("pocket(18,63)", 4).due("pocket(1,1)", 5)
            .due("sets(4,18)", 0).due("more()", 4).due("touches(4,62)", 63).due("more()", 5)
            .due("widens(4,14)", 18).due("more()", NONE);
        says("none does.");
        on("line(20) sets(4,28)").due("more()", NONE).due("pocket(1,2)", 0).due("more()", NONE)
            .due("touches(0,1)", 2).due("more()", 0);
        on("line(20) line(20) pocket(1,1) pocket(1,2) sets(4,28)").due("more()", NONE).due("widens(0,2)", 1)
            .due("more()", 1).due("widens(1,2)", 1).due("more()", NO);
        on("line(20) line(40) pocket(1,3) sets(4,28)").due("more()", NONE).due("sets(4,39)", 28).due("more()", NONE);
        on("line(20) pocket(60,1) sets(0,2) sets(4,21)").due("more()", NONE).due("sets(0,3)", 2).due("more()", NO);
    }

    private void skew() {
        says("A LINE of two wires, left and right of its way: SKEW is 0 at first;");
        on("line(60)").due("skew(0,0)", 100).due("goes(0,1,60)", 2).due("skew(0,0)", 100).due("bumps(0)", 1)
            .due("shortens(0)", 1).due("bumps(0)", 0);
        says("behind a TURN right 2 more, left 2 less.");
        on("line(1) goes(0,1,1) goes(0,1,1) goes(0,0,1) goes(0,0,1)").due("skew(0,1)", 102).due("skew(0,2)", 104)
            .due("skew(0,3)", 102).due("skew(0,4)", 100).due("goes(0,0,1)", 6).due("skew(0,5)", 98);
        on(EIGHT_RUNS).due("skew(0,7)", 114);
        on("line(1) " + "goes(0,0,1) ".repeat(7)).due("skew(0,7)", 86).due("skew(0,1)", 98);
        says("In each RUN as many BUMPS may be put as its LONG by NEAR (cut),");
        int[] longs = {1, 3, 4, 5, 7, 8, 9, 59, 60};
        int[] many = {0, 0, 1, 1, 1, 2, 2, 14, 15};
        for (int i = 0; i < longs.length; i++) {
            on(with("line(%)", longs[i])).due("run(0,0,2)", many[i]);
        }
        on("line(60) sets(6,1)").due("run(0,0,2)", 60).due("sets(6,9)", 1).due("run(0,0,2)", 6);
        on("line(8) sets(6,9)").due("run(0,0,2)", 0).due("sets(6,8)", 9).due("run(0,0,2)", 1).due("sets(6,7)", 8)
            .due("run(0,0,2)", 1);
        for (int turn = 0; turn <= 1; turn++) {
            String go = with("goes(0,%,3) ", turn);
            on("sets(5,6) line(9) " + go + go + with("goes(0,%,11)", turn)).due("bumps(0)", NONE);
            on("sets(5,6) line(9) " + go + go + with("goes(0,%,12)", turn)).due("bumps(0)", 3);
            on("sets(5,6) line(9) " + go + go + with("goes(0,%,13)", turn)).due("bumps(0)", 3);
        }
        says("each brings SKEW 2 nearer to 0 (none at 0).");
        for (int turn = 0; turn <= 1; turn++) {
            on("sets(5,6) line(60)" + with("goes(0,%,3)", turn)).due("bumps(0)", NONE);
            on("sets(5,6) line(60)" + with("goes(0,%,4)", turn)).due("bumps(0)", 1);
            on("sets(5,6) line(60)" + with("goes(0,%,60)", turn)).due("bumps(0)", 1);
            on("sets(5,6) line(60)" + with("goes(0,%,60) goes(0,%,3)", turn)).due("bumps(0)", NONE);
            on("sets(5,6) line(60)" + with("goes(0,%,60) goes(0,%,4)", turn)).due("bumps(0)", 2);
        }
    }

    private void inPhase() {
        says("IN PHASE: at the end of each RUN SKEW is PHASE at most, in size,");
        for (int turn = 0; turn <= 1; turn++) {
            String there = with("goes(0,%,3) ", turn);
            String back = with("goes(0,%,3) ", 1 - turn);
            for (int turns = 1; turns <= 3; turns++) {
                for (int phase = 2 * turns - 2; phase <= Math.min(6, 2 * turns + 1); phase++) {
                    on("line(3) " + there.repeat(turns) + back.repeat(turns) + with("sets(5,%)", phase))
                        .due("bumps(0)", phase < 2 * turns ? NONE : 0);
                }
            }
            // A skew of 8 is kept out of every phase by one bump on the way.
            on("line(3) " + there.repeat(3) + with("goes(0,%,3) ", turn) + back.repeat(3) + "sets(5,6)")
                .due("bumps(0)", NONE);
            on("line(3) " + there.repeat(3) + with("goes(0,%,4) ", turn) + back.repeat(3) + "sets(5,6)")
                .due("bumps(0)", 1);
            on("line(3) " + there.repeat(3) + with("goes(0,%,4) ", turn) + back.repeat(3) + "sets(5,5)")
                .due("bumps(0)", NONE);
        }
        says("and 0 at the end of the last one.");
        for (int turn = 0; turn <= 1; turn++) {
            on("sets(5,6) line(60) " + with("goes(0,%,3) ", turn)).due("bumps(0)", NONE)
                .due(with("goes(0,%,3)", 1 - turn), 3).due("bumps(0)", 0).due(with("goes(0,%,3)", 1 - turn), 4)
                .due("bumps(0)", NONE);
        }
        on("line(60)").due("bumps(0)", 0);
    }

    private void fewest() {
        says("BUMPS of a LINE: the fewest by which it is IN PHASE;");
        for (int turn = 0; turn <= 1; turn++) {
            String three = "line(60) " + with("goes(0,%,60) ", turn) + with("goes(0,%,60) ", 1 - turn)
                + with("goes(0,%,60) ", turn);
            on(three + "sets(5,0)").due("bumps(0)", 3);
            on(three + "sets(5,1)").due("bumps(0)", 3);
            on(three + "sets(5,2)").due("bumps(0)", 1);
            on(with("line(60) goes(0,%,60) goes(0,%,60) goes(0,%,60)", turn)).due("bumps(0)", 3)
                .due("sets(5,6)", 0).due("bumps(0)", 3).due(with("goes(0,%,60)", 1 - turn), 5).due("bumps(0)", 2);
            on("line(60) " + with("goes(0,%,60) ", turn).repeat(7)).due("bumps(0)", 7);
        }
        says("there may be none.");
        on("line(9) goes(0,1,3)").due("bumps(0)", NONE).due("sets(6,3)", 4).due("bumps(0)", 1).due("sets(6,4)", 3)
            .due("bumps(0)", NONE).due("shortens(0)", 1).due("bumps(0)", 0);
    }
}
