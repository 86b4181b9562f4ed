/** What the tests of the document's boundary cases have in common. */
abstract class Edges {
    static final int NONE = SnakedBus.NONE, BAD = SnakedBus.BAD, NO = SnakedBus.NO, FULL = SnakedBus.FULL;
    static final int LOWEST = Integer.MIN_VALUE, HIGHEST = Integer.MAX_VALUE;
    static final String FIVE_LINES = "line(10) ".repeat(5), SIX_LINES = "line(10) ".repeat(6);
    static final String FIVE_POCKETS = "pocket(10,1) ".repeat(5), SIX_POCKETS = "pocket(10,1) ".repeat(6);
    static final String SEVEN_RUNS = "line(5) " + "goes(0,1,5) ".repeat(6), EIGHT_RUNS = SEVEN_RUNS + "goes(0,1,5) ";

    private final Book book;

    Edges(Book book) {
        this.book = book;
    }

    abstract void all();

    void says(String section, String words) {
        book.says(section, words);
    }

    void says(int promise, String words) {
        book.says("Promise " + promise, words);
    }

    void check(boolean holds, String otherwise) {
        book.check(holds, otherwise);
    }

    Run on(String given) {
        return new Run(book, given);
    }

    /** The number at % is taken from low to high, with this answer, and BAD outside. */
    void range(String given, String call, int low, int high, int want) {
        int[] inside = {low, Math.min(low + 1, high), Math.max(high - 1, low), high};
        int[] outside = {low - 1, high + 1, LOWEST, HIGHEST};
        for (int v : inside) {
            on(given).due(with(call, v), want);
        }
        for (int v : outside) {
            on(given).due(with(call, v), BAD);
        }
    }

    static String with(String call, int v) {
        return call.replace("%", String.valueOf(v));
    }

    /** The given calls leave a STATE each, four at most; this one leaves one more. */
    void leavesState(String given, String call, int want) {
        int before = Call.all(given).size();
        on(given).due("told(4)", before).due(call, want).due("told(4)", before + 1).due("back()", before)
            .due("told(4)", before);
    }
}
