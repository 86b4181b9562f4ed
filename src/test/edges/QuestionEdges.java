/** The promises of the calls that only tell something: 9 to 22, 28. */
final class QuestionEdges extends Edges {
    private static final String THREE_RUNS = "line(10) line(9) goes(1,1,8) goes(1,0,3) ";

    QuestionEdges(Book book) {
        super(book);
    }

    @Override
    void all() {
        of();
        run();
        about();
        setting();
        count();
        draws();
        length();
        blocked();
        can();
        least();
        greatest();
        more();
        bumps();
        skew();
        digest();
    }

    private void of() {
        says(9, "Of LINE l: RUNS (what 0),");
        on("line(9)").due("of(0,0)", 1).due("goes(0,1,9)", 2).due("of(0,0)", 2);
        on(EIGHT_RUNS).due("of(0,0)", 8);
        says(9, "BASE (1),");
        on("line(1)").due("of(0,1)", 1).due("goes(0,1,1)", 2).due("of(0,1)", 2).due("sets(2,1)", 0).due("of(0,1)", 1)
            .due("sets(2,2)", 1).due("of(0,1)", 0);
        says(9, "LACK by TARGET (2),");
        on("line(20)").due("of(0,2)", 0).due("sets(4,20)", 0).due("of(0,2)", 0).due("sets(4,21)", 20).due("of(0,2)", 2)
            .due("sets(4,22)", 21).due("of(0,2)", 2).due("sets(4,23)", 22).due("of(0,2)", 4);
        says(9, "NEED (3),");
        on("line(20)").due("of(0,3)", 0).due("sets(4,20)", 0).due("of(0,3)", 0).due("sets(4,28)", 20).due("of(0,3)", 1)
            .due("sets(4,29)", 28).due("of(0,3)", 2).due("sets(0,2)", 6).due("of(0,3)", 1000);
        says(9, "POCKETS that it TOUCHES (4, bits),");
        on("line(9) line(9)").due("of(0,4)", 0).due("pocket(9,1)", 0).due("of(0,4)", 1).due("of(1,4)", 0)
            .due("pocket(9,2)", 1).due("of(0,4)", 1).due("of(1,4)", 2).due("pocket(9,63)", 2).due("of(0,4)", 5)
            .due("of(1,4)", 6);
        on("pocket(9,63) ".repeat(6) + "line(9)").due("of(0,4)", 63).due("touches(5,62)", 63).due("of(0,4)", 31);
        says(9, "right TURNS (5), left ones (6).");
        on("line(9)").due("of(0,5)", 0).due("of(0,6)", 0).due("goes(0,0,9)", 2).due("of(0,5)", 0).due("of(0,6)", 1)
            .due("goes(0,1,9)", 3).due("of(0,5)", 1).due("of(0,6)", 1).due("goes(0,1,9)", 4).due("of(0,5)", 2)
            .due("of(0,6)", 1);
        on(EIGHT_RUNS).due("of(0,5)", 7).due("of(0,6)", 0);
        says(9, "BAD.");
        on("").due("of(0,0)", BAD);
        range("line(9) line(9)", "of(%,1)", 0, 1, 9);
        range(SIX_LINES, "of(%,1)", 0, 5, 10);
        on("line(9)").due("of(0,-1)", BAD).due("of(0,7)", BAD).due("of(0,6)", 0).due("of(0,0)", 1)
            .due(with("of(0,%)", LOWEST), BAD).due(with("of(0,%)", HIGHEST), BAD);
    }

    private void run() {
        says(10, "Of RUN i of LINE l: LONG (what 0),");
        on(THREE_RUNS).due("run(0,0,0)", 10).due("run(1,0,0)", 9).due("run(1,1,0)", 8).due("run(1,2,0)", 3);
        says(10, "the TURN ahead of it (1; NONE: RUN 0),");
        on(THREE_RUNS).due("run(0,0,1)", NONE).due("run(1,0,1)", NONE).due("run(1,1,1)", 1).due("run(1,2,1)", 0);
        on(EIGHT_RUNS).due("run(0,0,1)", NONE).due("run(0,1,1)", 1).due("run(0,7,1)", 1).due("told(0)", 0);
        says(10, "how many BUMPS may be put in it (2).");
        on(THREE_RUNS).due("run(1,0,2)", 2).due("run(1,1,2)", 2).due("run(1,2,2)", 0).due("sets(6,3)", 4)
            .due("run(1,2,2)", 1).due("sets(6,2)", 3).due("run(1,2,2)", 1).due("sets(6,1)", 2).due("run(1,2,2)", 3)
            .due("sets(6,9)", 1).due("run(1,0,2)", 1).due("run(1,1,2)", 0);
        says(10, "BAD.");
        on("").due("run(0,0,0)", BAD);
        range("line(9) line(9)", "run(%,0,0)", 0, 1, 9);
        on(THREE_RUNS).due("run(0,1,0)", BAD).due("run(0,-1,0)", BAD).due("run(1,3,0)", BAD).due("run(1,-1,0)", BAD)
            .due("run(1,2,0)", 3).due(with("run(1,%,0)", LOWEST), BAD).due(with("run(1,%,0)", HIGHEST), BAD);
        on(EIGHT_RUNS + "line(9)").due("run(0,7,0)", 5).due("run(0,8,0)", BAD).due("run(1,1,0)", BAD);
        on("line(9)").due("run(0,0,-1)", BAD).due("run(0,0,3)", BAD).due("run(0,0,2)", 2).due("run(0,0,0)", 9)
            .due(with("run(0,0,%)", LOWEST), BAD).due(with("run(0,0,%)", HIGHEST), BAD);
    }

    private void about() {
        says(11, "Of POCKET p: WIDE (what 0),");
        on("pocket(1,1) pocket(60,1)").due("about(0,0)", 1).due("about(1,0)", 60);
        says(11, "LINES that TOUCH it and are there (1, bits),");
        on("pocket(9,63) pocket(9,2)").due("about(0,1)", 0).due("line(9)", 0).due("about(0,1)", 1).due("about(1,1)", 0)
            .due("line(9)", 1).due("about(0,1)", 3).due("about(1,1)", 2);
        on(FIVE_LINES + "pocket(9,63)").due("about(0,1)", 31).due("line(9)", 5).due("about(0,1)", 63);
        says(11, "HUMPS (2),");
        on("pocket(1,1)").due("about(0,2)", 0).due("widens(0,2)", 1).due("about(0,2)", 1).due("widens(0,5)", 2)
            .due("about(0,2)", 1).due("widens(0,6)", 5).due("about(0,2)", 2).due("sets(0,2)", 6).due("about(0,2)", 0);
        says(11, "FREE (3; NONE: ALL can not).");
        on("line(20) pocket(6,1) sets(4,20)").due("about(0,3)", 2).due("sets(4,28)", 20).due("about(0,3)", 1)
            .due("sets(4,36)", 28).due("about(0,3)", 0).due("sets(4,37)", 36).due("about(0,3)", NONE)
            .due("sets(4,19)", 37).due("about(0,3)", NONE).due("told(0)", 0).due("told(1)", 0);
        on("pocket(60,0)").due("about(0,3)", 15);
        says(11, "BAD.");
        on("").due("about(0,0)", BAD);
        range("pocket(9,1) pocket(9,1)", "about(%,0)", 0, 1, 9);
        range(SIX_POCKETS, "about(%,0)", 0, 5, 10);
        on("pocket(9,1)").due("about(0,-1)", BAD).due("about(0,4)", BAD).due("about(0,3)", 2).due("about(0,0)", 9)
            .due(with("about(0,%)", LOWEST), BAD).due(with("about(0,%)", HIGHEST), BAD);
    }

    private void setting() {
        says(12, "SETTING k.");
        on("").due("setting(0)", 6).due("setting(6)", 4).due("sets(0,7)", 6).due("setting(0)", 7).due("sets(6,5)", 4)
            .due("setting(6)", 5).due("sets(4,999)", 0).due("setting(4)", 999).due("setting(3)", 0);
        says(12, "BAD.");
        on("").due("setting(-1)", BAD).due("setting(7)", BAD).due("setting(6)", 4).due("setting(0)", 6)
            .due(with("setting(%)", LOWEST), BAD).due(with("setting(%)", HIGHEST), BAD).due("told(0)", 4);
    }

    private void count() {
        says(13, "LINES (what 0),");
        on("").due("count(0)", 0).due("line(9)", 0).due("count(0)", 1);
        on(FIVE_LINES).due("count(0)", 5).due("line(9)", 5).due("count(0)", 6).due("line(9)", FULL).due("count(0)", 6);
        says(13, "POCKETS (1),");
        on("").due("count(1)", 0).due("pocket(9,1)", 0).due("count(1)", 1);
        on(FIVE_POCKETS).due("count(1)", 5).due("pocket(9,1)", 5).due("count(1)", 6).due("pocket(9,1)", FULL)
            .due("count(1)", 6);
        says(13, "GAIN and 100 (2),");
        on("").due("count(2)", 108).due("sets(0,2)", 6).due("count(2)", 100).due("sets(0,3)", 2).due("count(2)", 102)
            .due("sets(2,1)", 0).due("count(2)", 98);
        on("sets(0,12) sets(1,1)").due("count(2)", 122);
        on("sets(0,2) sets(1,4) sets(2,2)").due("count(2)", 88);
        says(13, "whether ALL CAN by TARGET (3),");
        on("").due("count(3)", 1).due("line(20)", 0).due("count(3)", 0).due("sets(4,20)", 0).due("count(3)", 1)
            .due("sets(4,21)", 20).due("count(3)", 0).due("pocket(2,1)", 0).due("count(3)", 1)
            .due("sets(4,28)", 21).due("count(3)", 1).due("sets(4,29)", 28).due("count(3)", 0);
        says(13, "the longest BASE (4; 0 without LINES),");
        on("").due("count(4)", 0).due("line(1)", 0).due("count(4)", 1).due("line(5)", 1).due("count(4)", 5)
            .due("line(4)", 2).due("count(4)", 5).due("goes(2,1,2)", 2).due("count(4)", 6).due("sets(2,2)", 0)
            .due("count(4)", 5);
        on("line(9)").due("back()", 0).due("count(4)", 0);
        says(13, "HUMPS of all POCKETS (5),");
        on("").due("count(5)", 0).due("pocket(1,0)", 0).due("count(5)", 0).due("pocket(2,0)", 1).due("count(5)", 1)
            .due("pocket(60,0)", 2).due("count(5)", 16).due("sets(0,2)", 6).due("count(5)", 0);
        on("sets(1,1) " + "pocket(60,63) ".repeat(6)).due("count(5)", 180);
        says(13, "NEEDS together (6).");
        on("").due("count(6)", 0).due("sets(4,999)", 0).due("count(6)", 0);
        on("line(20) line(28) line(29) sets(4,28)").due("count(6)", 1).due("sets(4,29)", 28).due("count(6)", 3)
            .due("sets(4,36)", 29).due("count(6)", 4);
        on(SIX_LINES + "sets(0,2) sets(4,11)").due("count(6)", 6000);
        says(13, "BAD.");
        on("").due("count(-1)", BAD).due("count(7)", BAD).due("count(6)", 0).due("count(0)", 0)
            .due(with("count(%)", LOWEST), BAD).due(with("count(%)", HIGHEST), BAD).due("told(0)", 4);
    }

    private void draws() {
        says(14, "HUMPS that LINE l DRAWS in POCKET p.");
        on("line(20) line(24) pocket(2,1) pocket(6,3) sets(4,28)").due("draws(0,0)", 1).due("draws(0,1)", 0)
            .due("draws(1,0)", 0).due("draws(1,1)", 1).due("sets(4,29)", 28).due("draws(0,0)", 1).due("draws(0,1)", 1)
            .due("draws(1,1)", 1);
        says(14, "BAD;");
        on("").due("draws(0,0)", BAD);
        on("line(9)").due("draws(0,0)", BAD);
        on("pocket(9,1)").due("draws(0,0)", BAD);
        range("line(20) line(20) pocket(9,3) sets(4,28)", "draws(%,0)", 0, 1, 1);
        range("line(20) pocket(2,1) pocket(2,1) sets(4,36)", "draws(0,%)", 0, 1, 1);
        range(SIX_LINES + SIX_POCKETS + "sets(4,10)", "draws(%,5)", 0, 5, 0);
        range(SIX_LINES + SIX_POCKETS + "sets(4,10)", "draws(5,%)", 0, 5, 0);
        says(14, "NO: ALL can not.");
        on("line(20) pocket(2,1) sets(4,19)").due("draws(0,0)", NO).due("sets(4,20)", 19).due("draws(0,0)", 0)
            .due("sets(4,28)", 20).due("draws(0,0)", 1).due("sets(4,29)", 28).due("draws(0,0)", NO)
            .due("draws(1,0)", BAD).due("told(1)", 2).due("told(0)", 1);
    }

    private void length() {
        says(15, "LENGTH of LINE l.");
        on("line(20) line(25) pocket(60,3) sets(4,32)").due("length(0)", 32).due("length(1)", 33)
            .due("sets(4,25)", 32).due("length(0)", 26).due("length(1)", 25).due("sets(3,5)", 0).due("length(0)", 20);
        on("line(19) pocket(60,1) sets(4,999) sets(0,12) sets(1,1) pocket(60,1)").due("length(0)", 999)
            .due("goes(0,0,1)", 2).due("length(0)", 1000);
        says(15, "BAD;");
        on("").due("length(0)", BAD);
        range("line(20) line(20) sets(4,20)", "length(%)", 0, 1, 20);
        range(SIX_LINES + "sets(4,10)", "length(%)", 0, 5, 10);
        says(15, "NO: ALL can not.");
        on("line(20) line(20) pocket(6,3) sets(4,28)").due("length(1)", 28).due("sets(4,29)", 28).due("length(1)", NO)
            .due("length(2)", BAD).due("sets(4,19)", 29).due("length(0)", NO).due("sets(4,20)", 19)
            .due("length(0)", 20).due("told(1)", 2);
    }

    private void blocked() {
        says(16, "BLOCKED, as bits; 0: ALL CAN.");
        on("").due("blocked()", 0).due("sets(4,999)", 0).due("blocked()", 0);
        on("line(20) line(21) sets(4,19)").due("blocked()", 3).due("sets(4,20)", 19).due("blocked()", 2)
            .due("sets(4,21)", 20).due("blocked()", 1).due("pocket(2,1)", 0).due("blocked()", 0);
        on(FIVE_LINES + "line(11) sets(4,10)").due("blocked()", 32).due("sets(4,11)", 10).due("blocked()", 1)
            .due("sets(4,9)", 11).due("blocked()", 63).due("told(1)", 0);
    }

    private void can() {
        says(17, "Whether ALL CAN by T (0 .. 999).");
        on("").due("can(0)", 1).due("can(999)", 1).due("can(-1)", BAD).due("can(1000)", BAD);
        on("line(20) pocket(2,1) sets(4,5)").due("can(19)", 0).due("can(20)", 1).due("can(21)", 1).due("can(28)", 1)
            .due("can(29)", 0).due("can(0)", 0).due("can(999)", 0).due("setting(4)", 5);
        says(17, "BAD.");
        range("", "can(%)", 0, 999, 1);
    }

    private void least() {
        says(18, "LEAST;");
        on("").due("least()", 0).due("line(1)", 0).due("least()", 1).due("sets(4,999)", 0).due("least()", 1)
            .due("line(2)", 1).due("pocket(2,1)", 0).due("least()", 2);
        says(18, "NONE: by none.");
        on("line(20) line(21)").due("least()", NONE).due("sets(3,1)", 0).due("least()", 21).due("sets(3,0)", 1)
            .due("pocket(1,1)", 0).due("least()", NONE).due("widens(0,2)", 1).due("least()", 21).due("told(1)", 0);
    }

    private void greatest() {
        says(19, "GREATEST;");
        on("").due("greatest()", 999).due("line(1)", 0).due("greatest()", 1).due("pocket(2,1)", 0)
            .due("greatest()", 9).due("sets(3,20)", 0).due("greatest()", 29).due("sets(0,2)", 6).due("greatest()", 21);
        on("line(60) " + "goes(0,1,60) ".repeat(7) + "sets(0,12) sets(1,1) pocket(47,1)").due("greatest()", 999)
            .due("widens(0,46)", 47).due("about(0,2)", 23).due("greatest()", 986).due("sets(3,12)", 0)
            .due("greatest()", 998).due("sets(3,13)", 12).due("greatest()", 999).due("sets(3,14)", 13)
            .due("greatest()", 999);
        says(19, "NONE: by none.");
        on("line(20) line(21)").due("greatest()", NONE).due("sets(3,1)", 0).due("greatest()", 21).due("sets(3,0)", 1)
            .due("pocket(2,1)", 0).due("greatest()", 21).due("pocket(2,2)", 1).due("greatest()", 28)
            .due("told(1)", 0);
    }

    private void more() {
        says(20, "MORE;");
        on("line(20) pocket(1,1) sets(4,28)").due("more()", 0).due("sets(4,29)", 28).due("more()", NONE)
            .due("widens(0,2)", 1).due("more()", 0);
        on(SIX_POCKETS + "line(20) sets(4,167)").due("about(5,2)", 3).due("of(0,3)", 19).due("more()", 0)
            .due("touches(0,2)", 1).due("more()", NONE);
        says(20, "NONE.");
        on("line(20) sets(4,28)").due("more()", NONE).due("pocket(1,1)", 0).due("more()", 0).due("told(1)", 0);
        says(20, "NO: ALL CAN.");
        on("").due("more()", NO).due("told(1)", 1).due("line(20)", 0).due("more()", NONE).due("sets(4,20)", 0)
            .due("more()", NO).due("told(1)", 2).due("sets(4,21)", 20).due("more()", NONE);
    }

    private void bumps() {
        says(21, "BUMPS of LINE l;");
        on("line(9) line(8) goes(1,0,4)").due("bumps(0)", 0).due("bumps(1)", 1).due("goes(1,1,4)", 3)
            .due("bumps(1)", 2).due("sets(5,2)", 0).due("bumps(1)", 0);
        says(21, "NONE.");
        on("line(9) goes(0,0,3)").due("bumps(0)", NONE).due("sets(6,3)", 4).due("bumps(0)", 1).due("sets(6,4)", 3)
            .due("bumps(0)", NONE).due("told(0)", 0).due("told(1)", 0);
        says(21, "BAD.");
        on("").due("bumps(0)", BAD);
        range("line(9) line(9)", "bumps(%)", 0, 1, 0);
        range(SIX_LINES, "bumps(%)", 0, 5, 0);
    }

    private void skew() {
        says(22, "SKEW of LINE l at the end of RUN i, and 100, were no BUMPS put.");
        on(THREE_RUNS).due("skew(0,0)", 100).due("skew(1,0)", 100).due("skew(1,1)", 102).due("skew(1,2)", 100)
            .due("goes(1,0,60)", 4).due("skew(1,3)", 98).due("sets(5,6)", 0).due("skew(1,3)", 98);
        on(EIGHT_RUNS).due("skew(0,7)", 114).due("skew(0,6)", 112);
        says(22, "BAD.");
        on("").due("skew(0,0)", BAD);
        range("line(9) line(9)", "skew(%,0)", 0, 1, 100);
        on(THREE_RUNS).due("skew(0,1)", BAD).due("skew(0,-1)", BAD).due("skew(1,3)", BAD).due("skew(1,2)", 100)
            .due(with("skew(1,%)", LOWEST), BAD).due(with("skew(1,%)", HIGHEST), BAD);
        on(EIGHT_RUNS + "line(9)").due("skew(0,8)", BAD).due("skew(0,7)", 114).due("skew(1,1)", BAD);
    }

    private void digest() {
        String full = "line(20) goes(0,1,5) line(24) pocket(10,3) pocket(2,2) sets(4,32) ";
        says(28, "h = 2053; then h = 31 h + v for each v:");
        long h = 2053;
        int[] fresh = {0, 0, 0, 0, 0, 0, 0, 108, 1, 0, 0, 0, 6, 2, 0, 0, 0, 0, 4, 0, 0, 999};
        for (int v : fresh) {
            h = 31 * h + v;
        }
        on("").due("digest()", h).due("digest()", h);
        says(28, "told(0) to told(4);");
        on("").dueDigest().due("line(0)", BAD).dueDigest().due("back()", NO).dueDigest().types("l").dueDigest()
            .due("sets(4,0)", 0).dueDigest();
        on(SIX_LINES).due("line(9)", FULL).dueDigest();
        says(28, "count(0) to count(6);");
        on("").dueDigest().due("line(9)", 0).dueDigest().due("pocket(9,1)", 0).dueDigest().due("sets(4,99)", 0)
            .dueDigest();
        says(28, "SETTINGS 0 to 6;");
        on("sets(0,7) sets(1,3) sets(2,1) sets(3,4) sets(4,5) sets(5,6)").due("sets(6,9)", 4).dueDigest();
        says(28, "of each LINE of(0) to of(6), of each RUN run(0) to run(2), bumps();");
        on(EIGHT_RUNS).dueDigest().due("line(9)", 1).dueDigest();
        on(SIX_LINES + "goes(2,0,5) goes(2,1,3)").dueDigest();
        says(28, "of each POCKET about(0) to about(3);");
        on("pocket(10,1)").dueDigest().due("line(9)", 0).dueDigest().due("sets(4,9)", 0).dueDigest();
        on(SIX_POCKETS).dueDigest();
        says(28, "blocked(), least(), greatest();");
        on(full).dueDigest().due("sets(4,24)", 32).dueDigest().due("sets(4,60)", 24).dueDigest()
            .due("sets(0,2)", 6).dueDigest();
        on("line(20) line(21)").dueDigest();
        says(28, "if ALL CAN, of each LINE its HUMPS in each POCKET.");
        on(full).due("count(3)", 1).dueDigest().due("sets(4,40)", 32).due("count(3)", 1).dueDigest()
            .due("sets(4,41)", 40).due("count(3)", 0).dueDigest().due("sets(4,25)", 41).due("count(3)", 1)
            .dueDigest().due("sets(4,24)", 25).due("count(3)", 0).dueDigest();
        on(SIX_LINES + SIX_POCKETS + "sets(4,10)").due("count(3)", 1).dueDigest();
    }
}
