/** The terms of THE TEXT, its orders and its faults. */
final class TextEdges extends Edges {
    TextEdges(Book book) {
        super(book);
    }

    @Override
    void all() {
        bytes();
        orders();
        eachOrder();
        numbers();
        blanks();
        refusedOrders();
        faults();
        earlyEnds();
    }

    private void says(String words) {
        says("Terms", words);
    }

    /** What does() is to answer behind these calls and this text. */
    private Run text(String given, String text, int want) {
        return on(given).types(text).due("does()", want);
    }

    private void fault(String text, int place) {
        text("line(9) pocket(9,1)", text, -10 - place);
    }

    private void done(String text, int orders) {
        text("line(9) pocket(9,1)", text, orders);
    }

    private void ends(String given, String text, int order) {
        text(given, text, -1000 - order);
    }

    private void bytes() {
        says("THE TEXT (120 bytes at most)");
        on("").types(" ".repeat(118)).due("type(32)", 119).due("type(32)", 120).due("type(32)", FULL)
            .due("told(3)", 120).due("does()", -130).due("clear()", 120).due("type(32)", 1);
        text("", "s4 1;".repeat(24), 24).due("setting(4)", 1);
        text("", "l9;".repeat(6) + " ".repeat(102), 6).due("count(0)", 6);
        text("", " ".repeat(117) + "l9;", 1).due("of(0,1)", 9);
        on("").types(" ".repeat(118) + "l9").due("type(59)", FULL).due("does()", -130).due("count(0)", 0);
        ends("", "l9;".repeat(40), 6);
    }

    private void orders() {
        says("tells ORDERS, each ended by ; :");
        fault("l5", 2);
        done("l5;", 1);
        fault("l5;;", 3);
        fault(";", 0);
        fault("l5;;l5;", 3);
        fault("l5l5;", 2);
        done("l5;l5;", 2);
        fault("l5;l5", 5);
        fault("l5,l5;", 2);
        fault("l5:", 2);
        fault("l5<", 2);
    }

    private void eachOrder() {
        says("l a (as line),");
        ends("", "l0;", 0);
        text("", "l1;l60;", 2).due("of(0,1)", 1).due("of(1,1)", 60);
        ends("", "l61;", 0);
        text(FIVE_LINES, "l7;", 1).due("of(5,1)", 7);
        ends(SIX_LINES, "l7;", 0);
        says("g l t a (as goes),");
        ends("line(9)", "g1 0 5;", 0);
        ends("line(9)", "g0 2 5;", 0);
        ends("line(9)", "g0 0 0;", 0);
        ends("line(9)", "g0 0 61;", 0);
        text("line(9)", "g0 0 1;g0 1 60;", 2).due("run(0,1,0)", 1).due("run(0,1,1)", 0).due("run(0,2,0)", 60)
            .due("run(0,2,1)", 1);
        text(SEVEN_RUNS, "g0 1 6;", 1).due("run(0,7,0)", 6);
        ends(EIGHT_RUNS, "g0 1 6;", 0);
        says("k w v (as pocket),");
        ends("", "k0 1;", 0);
        ends("", "k61 1;", 0);
        ends("", "k9 64;", 0);
        text("", "k1 0;k60 63;", 2).due("about(0,0)", 1).due("about(1,0)", 60).due("touches(0,1)", 0)
            .due("touches(1,1)", 63);
        text(FIVE_POCKETS, "k7 1;", 1).due("about(5,0)", 7);
        ends(SIX_POCKETS, "k7 1;", 0);
        says("s k v (as sets),");
        ends("", "s7 0;", 0);
        ends("", "s7 1;", 0);
        int[] low = {2, 1, 0, 0, 0, 0, 1};
        int[] high = {12, 4, 2, 20, 999, 6, 9};
        for (int k = 0; k < low.length; k++) {
            text("", "s" + k + " " + low[k] + ";", 1).due("setting(" + k + ")", low[k]);
            text("", "s" + k + " " + high[k] + ";", 1).due("setting(" + k + ")", high[k]);
            if (low[k] > 0) {
                ends("", "s" + k + " " + (low[k] - 1) + ";", 0);
            }
            if (high[k] < 999) {
                ends("", "s" + k + " " + (high[k] + 1) + ";", 0);
            }
        }
        text("", "s4 1000;", -10 - 6);
        says("w p w (as widens).");
        ends("", "w0 9;", 0);
        ends("pocket(9,1)", "w1 9;", 0);
        ends("pocket(9,1)", "w0 0;", 0);
        ends("pocket(9,1)", "w0 61;", 0);
        text("pocket(9,1) pocket(8,1)", "w0 1;w1 60;", 2).due("about(0,0)", 1).due("about(1,0)", 60);
        for (char c = 0; c <= 127; c++) {
            if ("lgksw ".indexOf(c) < 0) {
                fault(c + "5 5;", 0);
            }
        }
    }

    private void numbers() {
        says("Numbers have 1 to 3 figures;");
        fault("l;", 1);
        done("l5;", 1);
        done("l05;", 1);
        done("l005;", 1);
        fault("l0005;", 4);
        text("", "l060;", 1).due("of(0,1)", 60);
        text("", "s4 0;s4 9;s4 99;s4 999;", 4).due("setting(4)", 999);
        text("", "s4 100;", 1).due("setting(4)", 100);
        fault("s4 1000;", 6);
        fault("s004 0999", 8);
        done("s004 099;", 1);
        fault("s0004 1;", 4);
        done("g000 001 060;", 1);
        fault("g000 001 0060;", 12);
        fault("g000 0001 60;", 8);
        fault("l/;", 1);
        fault("l:;", 1);
        fault("l-5;", 1);
        fault("l+5;", 1);
    }

    private void blanks() {
        says("blanks (32) may stand anywhere but within a number,");
        done("   l   5   ;   ", 1);
        done(" g 0  1   5 ; k 5 1 ; s 4 5 ; w 0 5 ; ", 4);
        fault("l1 2;", 3);
        fault("l 1 2;", 4);
        fault("l1  2;", 4);
        fault("s4 1 2;", 5);
        for (int c : new int[] {0, 9, 10, 13, 31, 33, 127}) {
            fault((char) c + "l5;", 0);
            fault("l" + (char) c + "5;", 1);
            fault("l5" + (char) c + ";", 2);
            fault("k5" + (char) c + "5;", 2);
            fault("l5;" + (char) c, 3);
        }
        says("needed only where figures of two numbers would else stand side by side.");
        done("k5 1;", 1);
        fault("k51;", 3);
        fault("k511;", 4);
        fault("k5111;", 4);
        done("g0 1 5;", 1);
        fault("g01 5;", 5);
        fault("g0 15;", 5);
        fault("g015;", 4);
        done("l5;g0 1 5;k5 1;s4 5;w0 5;", 5);
    }

    private void refusedOrders() {
        says("THE TEXT is read whole first;");
        fault("l61;x", 4);
        fault("l61;l", 5);
        ends("", "l61;", 0);
        ends("", "l61; ", 0);
        fault("l5;l61;l1234;", 11);
        says("an ORDER that its call would refuse then ends all, nothing is done.");
        text("", "l5;l61;l7;", -1001).due("count(0)", 0).due("told(4)", 0).due("back()", NO);
        text("", "l5;l6;l61;", -1002).due("count(0)", 0);
        text("", "l5;l6;l60;", 3).due("count(0)", 3).due("told(4)", 1);
        text("", "l61;l5;", -1000).due("count(0)", 0);
        text("", "l61;l62;", -1000);
        // An order sees what the ones ahead of it did.
        text("", "l5;g0 1 5;", 2).due("of(0,0)", 2);
        ends("", "g0 1 5;l5;", 0);
        text("", "k5 1;w0 6;", 2).due("about(0,0)", 6);
        ends("", "w0 6;k5 1;", 0);
        text(FIVE_LINES, "l5;l6;", -1001).due("count(0)", 5);
        text(SEVEN_RUNS, "g0 0 5;g0 0 5;", -1001).due("of(0,0)", 7);
        text(FIVE_POCKETS, "k5 1;k6 1;", -1001).due("count(1)", 5);
        text("", "s4 1;".repeat(23) + "s9 1;", -1023).due("setting(4)", 0);
        text("sets(4,7)", "s4 8;w0 1;", -1001).due("setting(4)", 7).due("told(4)", 1);
    }

    private void faults() {
        says("FAULT: the place of the first byte that can not stand there (a fourth figure);");
        fault("x", 0);
        fault(" x", 1);
        fault("lx", 1);
        fault("l5x", 2);
        fault("l5;x", 3);
        fault("l123;l1234;", 9);
        fault("l1234;", 4);
        fault("xl1234;", 0);
        fault("xy", 0);
        fault("ll5;", 1);
        fault("k5;", 2);
        fault("k5 ;", 3);
        fault("k5 1 1;", 5);
        fault("k5 1k", 4);
        fault("g0 1;", 4);
        fault("g0 1 ;", 5);
        fault("g0 1 5 5;", 7);
        fault("s;", 1);
        fault("w0 1 2", 5);
        fault("L5;", 0);
        fault("G0 1 5;", 0);
        fault(" ".repeat(118) + "l;", 119);
        fault(" ".repeat(119) + ";", 119);
        fault(" ".repeat(117) + "l5x", 119);
        says("If there is one, nothing is done.");
        text("", "l5;x", -13).due("count(0)", 0).due("told(4)", 0);
        text("", "l5;l5", -15).due("count(0)", 0).due("told(4)", 0).due("type(59)", 6).due("does()", 2)
            .due("count(0)", 2).due("told(4)", 1);
        text("line(9)", "s4 9;g0 1 5;;", -22).due("setting(4)", 0).due("of(0,0)", 1);
    }

    private void earlyEnds() {
        says("the TEXT's length, if it ends too early");
        fault("l", 1);
        fault("l ", 2);
        fault("l5", 2);
        fault("l5 ", 3);
        fault("l555", 4);
        fault("k5", 2);
        fault("k5 1", 4);
        fault("g0 1 5", 6);
        fault("l5;g", 4);
        fault(" ".repeat(119) + "l", 120);
        fault(" ".repeat(118) + "l5", 120);
        done("l5;", 1);
        done("l5; ", 1);
        done(" l5;", 1);
        says("(one that is empty or has blanks alone, too).");
        fault("", 0);
        fault(" ", 1);
        fault("  ", 2);
        fault(" ".repeat(119), 119);
        fault(" ".repeat(120), 120);
        on("").types("l5;").due("clear()", 3).due("does()", -10).due("count(0)", 0);
        on("").types("l5;").due("does()", 1).due("clear()", 3).due("does()", -10).due("type(32)", 1)
            .due("does()", -11).due("count(0)", 1);
    }
}
