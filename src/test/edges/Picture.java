import java.util.ArrayList;
import java.util.List;

/**
 * All that an object tells behind a run of calls. Each part is asked of a new object, so that none is asked more often
 * than the document's 512 times, and so that what is asked may change the object.
 */
final class Picture {
    private static final int MOST_CALLS = 180;

    final int[] refusals = new int[3];
    final int bytes;
    final int states;
    /** What does() would answer. */
    final int reading;
    /** What back() answers when all STATES have been taken back. */
    final int ending;
    final List<Integer> now;
    /** What there was at each STATE, the newest first. */
    final List<List<Integer>> past = new ArrayList<>();

    Picture(List<Call> calls) {
        if (calls.size() > MOST_CALLS) {
            throw new IllegalArgumentException("too many calls for one run");
        }
        SnakedBus x = Call.behind(calls);
        for (int i = 0; i < refusals.length; i++) {
            refusals[i] = x.told(i);
        }
        bytes = x.told(3);
        states = x.told(4);
        reading = x.does();
        now = all(Call.behind(calls));
        for (int depth = 1; depth <= Math.min(states, 6); depth++) {
            past.add(all(taken(calls, depth)));
        }
        ending = taken(calls, Math.min(states, 6)).back();
    }

    private static SnakedBus taken(List<Call> calls, int depth) {
        SnakedBus x = Call.behind(calls);
        for (int i = 0; i < depth; i++) {
            x.back();
        }
        return x;
    }

    private static List<Integer> all(SnakedBus x) {
        List<Integer> all = new ArrayList<>();
        boolean can = x.count(3) == 1;
        int pockets = x.count(1);
        for (int i = 0; i < 7; i++) {
            all.add(x.count(i));
            all.add(x.setting(i));
        }
        for (int l = 0; l < x.count(0); l++) {
            addLine(all, x, l);
            for (int p = 0; p < pockets && can; p++) {
                all.add(x.draws(l, p));
            }
            all.add(can ? x.length(l) : 0);
        }
        all.addAll(List.of(x.blocked(), x.least(), x.greatest(), can ? 0 : x.more()));
        for (int p = 0; p < pockets; p++) {
            for (int what = 0; what < 4; what++) {
                all.add(x.about(p, what));
            }
        }
        // Last, since it changes the object: only this tells of lines that are not there.
        for (int p = 0; p < pockets; p++) {
            all.add(x.touches(p, 0));
        }
        return all;
    }

    private static void addLine(List<Integer> all, SnakedBus x, int l) {
        for (int what = 0; what < 7; what++) {
            all.add(x.of(l, what));
        }
        for (int i = 0; i < x.of(l, 0); i++) {
            for (int what = 0; what < 3; what++) {
                all.add(x.run(l, i, what));
            }
            all.add(x.skew(l, i));
        }
        all.add(x.bumps(l));
    }

    /** The digest as the document tells it, from what the other calls answer. */
    static long digest(List<Call> calls) {
        SnakedBus x = Call.behind(calls);
        List<Integer> all = new ArrayList<>();
        for (int what = 0; what < 5; what++) {
            all.add(x.told(what));
        }
        for (int what = 0; what < 7; what++) {
            all.add(x.count(what));
        }
        for (int k = 0; k < 7; k++) {
            all.add(x.setting(k));
        }
        for (int l = 0; l < x.count(0); l++) {
            for (int what = 0; what < 7; what++) {
                all.add(x.of(l, what));
            }
            for (int i = 0; i < 3 * x.of(l, 0); i++) {
                all.add(x.run(l, i / 3, i % 3));
            }
            all.add(x.bumps(l));
        }
        for (int i = 0; i < 4 * x.count(1); i++) {
            all.add(x.about(i / 4, i % 4));
        }
        all.addAll(List.of(x.blocked(), x.least(), x.greatest()));
        int many = x.count(3) == 1 ? x.count(0) * x.count(1) : 0;
        for (int i = 0; i < many; i++) {
            all.add(x.draws(i / x.count(1), i % x.count(1)));
        }
        long h = 2053;
        for (int v : all) {
            h = 31 * h + v;
        }
        return h;
    }
}
