import java.util.ArrayList;
import java.util.Arrays;
import java.util.List;
import java.util.Set;

/** A run of calls on a new object: each with the answer that is due, and with what it may change and what not. */
final class Run {
    private static final Set<String> LEAVE_A_STATE = Set.of("line", "goes", "shortens", "pocket", "widens", "touches",
        "sets", "does");
    private static final int MOST_STATES = 5;

    private final Book book;
    private final List<Call> calls = new ArrayList<>();
    private Picture picture;

    Run(Book book, String given) {
        this.book = book;
        SnakedBus x = new SnakedBus();
        for (Call c : Call.all(given)) {
            long answer = c.ask(x);
            book.check(answer >= 0, told() + c + " was refused: " + answer);
            calls.add(c);
        }
        picture = new Picture(calls);
    }

    private String told() {
        StringBuilder text = new StringBuilder();
        for (Call c : calls) {
            text.append(c).append(' ');
        }
        return text.toString();
    }

    Run types(String text) {
        for (int i = 0; i < text.length(); i++) {
            calls.add(Call.one("type(" + (int) text.charAt(i) + ")"));
        }
        picture = new Picture(calls);
        return this;
    }

    Run due(String text, long want) {
        Call call = Call.one(text);
        long got = call.ask(Call.behind(calls));
        String run = told() + call;
        book.check(got == want, run + " answered " + got + ", due is " + want);
        Picture before = picture;
        calls.add(call);
        picture = new Picture(calls);
        String other = changedWrongly(call, want, before, picture);
        book.check(other.isEmpty(), run + " changed what it may not: " + other);
        return this;
    }

    Run dueDigest() {
        return due("digest()", Picture.digest(calls));
    }

    private static boolean isRefusal(long answer) {
        return answer == SnakedBus.BAD || answer == SnakedBus.NO || answer == SnakedBus.FULL;
    }

    /** Empty, or what is not as it has to be behind a call with this answer. */
    private static String changedWrongly(Call call, long answer, Picture a, Picture b) {
        int[] refusals = a.refusals.clone();
        if (isRefusal(answer)) {
            refusals[(int) (SnakedBus.BAD - answer)]++;
        }
        StringBuilder other = new StringBuilder();
        note(other, "how often refused", Arrays.equals(refusals, b.refusals));
        note(other, "STATES", b.states == b.past.size() && b.states <= MOST_STATES && b.ending == SnakedBus.NO);
        if (!isRefusal(answer) && LEAVE_A_STATE.contains(call.name) && answer >= 0) {
            List<List<Integer>> past = new ArrayList<>(a.past);
            past.add(0, a.now);
            note(other, "the STATE left", b.past.equals(past.subList(0, Math.min(MOST_STATES, past.size()))));
            note(other, "THE TEXT", a.bytes == b.bytes);
        } else if (!isRefusal(answer) && call.name.equals("back")) {
            note(other, "the STATE taken back", !a.past.isEmpty() && b.now.equals(a.past.get(0))
                && b.past.equals(a.past.subList(1, a.past.size())));
            note(other, "THE TEXT", a.bytes == b.bytes);
        } else {
            note(other, "lines, pockets, settings", b.now.equals(a.now));
            note(other, "the STATES' contents", b.past.equals(a.past));
            note(other, "THE TEXT", textIsRight(call, answer, a, b));
        }
        return other.toString();
    }

    private static boolean textIsRight(Call call, long answer, Picture a, Picture b) {
        if (call.name.equals("type") && !isRefusal(answer)) {
            return b.bytes == a.bytes + 1 && answer == b.bytes;
        }
        if (call.name.equals("clear")) {
            return b.bytes == 0 && answer == a.bytes;
        }
        return b.bytes == a.bytes && b.reading == a.reading;
    }

    private static void note(StringBuilder other, String what, boolean holds) {
        other.append(holds ? "" : what + "; ");
    }
}
