import java.util.ArrayDeque;
import java.util.ArrayList;
import java.util.Arrays;
import java.util.Deque;
import java.util.List;
import java.util.regex.Matcher;
import java.util.regex.Pattern;

/**
 * Long runs of calls on SnakedBus and on a model that is written from the document by other means: flows instead of
 * sets, every length tried, every way of bumps tried, a pattern instead of a reader. Each answer must be the same.
 */
public final class ModelTest {
    private static final int RUNS = 400, CALLS = 120;

    /** Numbers that are the same in every run of the test. */
    private static final class Dice {
        private long seed;

        Dice(long seed) {
            this.seed = seed;
        }

        int below(int n) {
            seed = seed * 6364136223846793005L + 1442695040888963407L;
            return (int) ((seed >>> 33) % n);
        }

        int from(int low, int high) {
            return low + below(high - low + 1);
        }
    }

    private static final class Refusal extends RuntimeException {
        private static final long serialVersionUID = 1L;
        final int code;

        Refusal(int code) {
            this.code = code;
        }
    }

    private static final class Model {
        static final int[] LOW = {2, 1, 0, 0, 0, 0, 1}, HIGH = {12, 4, 2, 20, 999, 6, 9};
        static final String NUMBER = " *([0-9]{1,3})", SECOND = " +([0-9]{1,3})";
        static final Pattern ORDER = Pattern.compile(" *(?:l" + NUMBER + "|g" + NUMBER + SECOND + SECOND
            + "|[ksw]" + NUMBER + SECOND + ") *;");
        static final Pattern ALL = Pattern.compile("(?:" + ORDER.pattern() + ")+ *");

        List<List<int[]>> lines = new ArrayList<>(); // of runs: LONG and TURN
        List<int[]> pockets = new ArrayList<>(); // WIDE and TOUCH
        int[] settings = {6, 2, 0, 0, 0, 0, 4};
        final StringBuilder text = new StringBuilder();
        final Deque<Object[]> states = new ArrayDeque<>();
        final int[] refused = new int[3];

        static void must(boolean holds, int code) {
            if (!holds) {
                throw new Refusal(code);
            }
        }

        static void range(int v, int low, int high) {
            must(v >= low && v <= high, -2);
        }

        List<int[]> line(int l) {
            range(l, 0, lines.size() - 1);
            return lines.get(l);
        }

        int[] pocket(int p) {
            range(p, 0, pockets.size() - 1);
            return pockets.get(p);
        }

        Object[] snapshot() {
            List<List<int[]>> someLines = new ArrayList<>();
            for (List<int[]> runs : lines) {
                someLines.add(new ArrayList<>(runs));
            }
            List<int[]> somePockets = new ArrayList<>();
            for (int[] p : pockets) {
                somePockets.add(p.clone());
            }
            return new Object[] {someLines, somePockets, settings.clone()};
        }

        @SuppressWarnings("unchecked")
        void restore(Object[] state) {
            lines = (List<List<int[]>>) state[0];
            pockets = (List<int[]>) state[1];
            settings = (int[]) state[2];
        }

        void keep(Object[] state) {
            states.addLast(state);
            if (states.size() > 5) {
                states.removeFirst();
            }
        }

        int change(String name, int... a) {
            switch (name) {
                case "line":
                    range(a[0], 1, 60);
                    must(lines.size() < 6, -4);
                    lines.add(new ArrayList<>(List.of(new int[] {a[0], -1})));
                    return lines.size() - 1;
                case "goes":
                    List<int[]> runs = line(a[0]);
                    range(a[1], 0, 1);
                    range(a[2], 1, 60);
                    must(runs.size() < 8, -4);
                    runs.add(new int[] {a[2], a[1]});
                    return runs.size();
                case "shortens":
                    List<int[]> some = line(a[0]);
                    must(some.size() > 1, -3);
                    some.remove(some.size() - 1);
                    return some.size();
                case "pocket":
                    range(a[0], 1, 60);
                    range(a[1], 0, 63);
                    must(pockets.size() < 6, -4);
                    pockets.add(new int[] {a[0], a[1]});
                    return pockets.size() - 1;
                case "widens":
                    int[] wide = pocket(a[0]);
                    range(a[1], 1, 60);
                    return swap(wide, 0, a[1]);
                case "touches":
                    int[] touch = pocket(a[0]);
                    range(a[1], 0, 63);
                    return swap(touch, 1, a[1]);
                default:
                    range(a[0], 0, 6);
                    range(a[1], LOW[a[0]], HIGH[a[0]]);
                    return swap(settings, a[0], a[1]);
            }
        }

        static int swap(int[] row, int i, int v) {
            int was = row[i];
            row[i] = v;
            return was;
        }

        int base(int l) {
            int sum = 0;
            for (int[] run : line(l)) {
                sum += run[0];
            }
            return Math.max(0, sum - (line(l).size() - 1) * settings[2]);
        }

        int gain() {
            return 2 * (settings[0] - settings[1]) - 4 * settings[2];
        }

        int lack(int l, int t) {
            int lack = t - settings[3] - base(l);
            return lack <= 0 ? 0 : lack % 2 == 0 ? lack : lack + 1;
        }

        int need(int l, int t) {
            int lack = lack(l, t);
            return lack == 0 ? 0 : gain() < 2 ? 1000 : (int) Math.ceil(lack / (double) gain());
        }

        int humps(int p) {
            return gain() < 2 ? 0 : (pocket(p)[0] + settings[1]) / (2 * settings[1]);
        }

        boolean touch(int l, int p) {
            return (pocket(p)[1] & 1 << l) != 0;
        }

        int[] needs(int t) {
            int[] needs = new int[lines.size()];
            for (int l = 0; l < needs.length; l++) {
                needs[l] = need(l, t);
            }
            return needs;
        }

        int[] humpsOfAll() {
            int[] humps = new int[pockets.size()];
            for (int p = 0; p < humps.length; p++) {
                humps[p] = humps(p);
            }
            return humps;
        }

        boolean[][] touchOfAll() {
            boolean[][] touch = new boolean[lines.size()][pockets.size()];
            for (int l = 0; l < touch.length; l++) {
                for (int p = 0; p < pockets.size(); p++) {
                    touch[l][p] = touch(l, p);
                }
            }
            return touch;
        }

        /** Whether a flow from lines to pockets brings each line its need. */
        static boolean flows(int[] needs, int[] humps, boolean[][] touch) {
            int wanted = Arrays.stream(needs).sum();
            if (wanted > Arrays.stream(humps).sum()) {
                return false;
            }
            int[][] flow = new int[needs.length][humps.length];
            int[] left = humps.clone();
            for (int l = 0; l < needs.length; l++) {
                for (int n = 0; n < needs[l]; n++) {
                    if (!augments(l, flow, left, touch, new boolean[humps.length])) {
                        return false;
                    }
                }
            }
            return true;
        }

        static boolean augments(int l, int[][] flow, int[] left, boolean[][] touch, boolean[] seen) {
            for (int p = 0; p < left.length; p++) {
                if (!touch[l][p] || seen[p]) {
                    continue;
                }
                seen[p] = true;
                if (left[p] > 0) {
                    left[p]--;
                    flow[l][p]++;
                    return true;
                }
                for (int other = 0; other < flow.length; other++) {
                    if (flow[other][p] > 0 && augments(other, flow, left, touch, seen)) {
                        flow[other][p]--;
                        flow[l][p]++;
                        return true;
                    }
                }
            }
            return false;
        }

        boolean tooLong(int t) {
            for (int l = 0; l < lines.size(); l++) {
                if (base(l) > t) {
                    return true;
                }
            }
            return false;
        }

        boolean can(int t) {
            return !tooLong(t) && flows(needs(t), humpsOfAll(), touchOfAll());
        }

        boolean canNow() {
            return can(settings[4]);
        }

        /** Cell after cell the greatest number with which the rest can still be drawn. */
        int[][] drawn() {
            must(canNow(), -3);
            int[] needs = needs(settings[4]);
            int[] humps = humpsOfAll();
            boolean[][] touch = touchOfAll();
            int[][] drawn = new int[needs.length][humps.length];
            for (int l = 0; l < needs.length; l++) {
                for (int p = 0; p < humps.length; p++) {
                    if (!touch[l][p]) {
                        continue;
                    }
                    touch[l][p] = false;
                    int v = Math.min(needs[l], humps[p]);
                    needs[l] -= v;
                    humps[p] -= v;
                    while (!flows(needs, humps, touch)) {
                        v--;
                        needs[l]++;
                        humps[p]++;
                    }
                    drawn[l][p] = v;
                }
            }
            return drawn;
        }

        int free(int p) {
            if (!canNow()) {
                return -1;
            }
            int free = humps(p);
            for (int[] row : drawn()) {
                free -= row[p];
            }
            return free;
        }

        int blocked() {
            int t = settings[4];
            if (canNow()) {
                return 0;
            }
            int above = 0;
            for (int l = 0; l < lines.size(); l++) {
                above |= base(l) > t ? 1 << l : 0;
            }
            if (above != 0) {
                return above;
            }
            for (int size = 1; size <= 6; size++) {
                for (int set = 0; set < 1 << lines.size(); set++) {
                    if (Integer.bitCount(set) == size && isCrowd(set, t)) {
                        return set;
                    }
                }
            }
            throw new IllegalStateException("the flow says that all can not, but no set is too large");
        }

        boolean isCrowd(int set, int t) {
            int sum = 0;
            for (int l = 0; l < lines.size(); l++) {
                sum += (set & 1 << l) != 0 ? need(l, t) : 0;
            }
            for (int p = 0; p < pockets.size(); p++) {
                sum -= (pocket(p)[1] & set) != 0 ? humps(p) : 0;
            }
            return sum > 0;
        }

        int least() {
            for (int t = 0; t <= 999; t++) {
                if (can(t)) {
                    return t;
                }
            }
            return -1;
        }

        int greatest() {
            for (int t = 999; t >= 0; t--) {
                if (can(t)) {
                    return t;
                }
            }
            return -1;
        }

        int more() {
            must(!canNow(), -3);
            for (int p = 0; p < pockets.size(); p++) {
                int[] humps = humpsOfAll();
                humps[p]++;
                if (!tooLong(settings[4]) && flows(needs(settings[4]), humps, touchOfAll())) {
                    return p;
                }
            }
            return -1;
        }

        int bumps(int l) {
            int fewest = bumps(line(l), 0, 0, 0);
            return fewest == Integer.MAX_VALUE ? -1 : fewest;
        }

        int bumps(List<int[]> runs, int i, int skew, int spent) {
            if (i == runs.size()) {
                return skew == 0 ? spent : Integer.MAX_VALUE;
            }
            int turn = runs.get(i)[1];
            int now = skew + (turn == 1 ? 2 : turn == 0 ? -2 : 0);
            int fewest = Integer.MAX_VALUE;
            for (int n = 0; n <= runs.get(i)[0] / settings[6]; n++) {
                if (Math.abs(now) <= settings[5]) {
                    fewest = Math.min(fewest, bumps(runs, i + 1, now, spent + n));
                }
                if (now == 0) {
                    break;
                }
                now -= now > 0 ? 2 : -2;
            }
            return fewest;
        }

        int skew(int l, int i) {
            List<int[]> runs = line(l);
            range(i, 0, runs.size() - 1);
            int skew = 100;
            for (int[] run : runs.subList(1, i + 1)) {
                skew += run[1] == 1 ? 2 : -2;
            }
            return skew;
        }

        int turns(int l, int side) {
            return (int) line(l).stream().filter(run -> run[1] == side).count();
        }

        int pocketsOf(int l) {
            int set = 0;
            for (int p = 0; p < pockets.size(); p++) {
                set |= touch(l, p) ? 1 << p : 0;
            }
            return set;
        }

        int of(int l, int what) {
            line(l);
            range(what, 0, 6);
            int t = settings[4];
            return new int[] {line(l).size(), base(l), lack(l, t), need(l, t), pocketsOf(l), turns(l, 1),
                turns(l, 0)}[what];
        }

        int run(int l, int i, int what) {
            List<int[]> runs = line(l);
            range(i, 0, runs.size() - 1);
            range(what, 0, 2);
            return new int[] {runs.get(i)[0], runs.get(i)[1], runs.get(i)[0] / settings[6]}[what];
        }

        int about(int p, int what) {
            int[] pocket = pocket(p);
            range(what, 0, 3);
            int there = 0;
            for (int l = 0; l < lines.size(); l++) {
                there |= pocket[1] & 1 << l;
            }
            return what == 3 ? free(p) : new int[] {pocket[0], there, humps(p)}[what];
        }

        int count(int what) {
            range(what, 0, 6);
            int longest = 0;
            for (int l = 0; l < lines.size(); l++) {
                longest = Math.max(longest, base(l));
            }
            return new int[] {lines.size(), pockets.size(), gain() + 100, canNow() ? 1 : 0, longest,
                Arrays.stream(humpsOfAll()).sum(), Arrays.stream(needs(settings[4])).sum()}[what];
        }

        int told(int what) {
            range(what, 0, 4);
            return what < 3 ? refused[what] : what == 3 ? text.length() : states.size();
        }

        int fault() {
            for (int i = 1; i <= text.length(); i++) {
                Matcher m = ALL.matcher(text.substring(0, i));
                if (!m.matches() && !m.hitEnd()) {
                    return i - 1;
                }
            }
            return ALL.matcher(text).matches() ? -1 : text.length();
        }

        int does() {
            int fault = fault();
            if (fault >= 0) {
                return -10 - fault;
            }
            Object[] before = snapshot();
            Matcher m = ORDER.matcher(text);
            int done = 0;
            while (m.find()) {
                try {
                    order(m.group().trim());
                } catch (Refusal r) {
                    restore(before);
                    return -1000 - done;
                }
                done++;
            }
            keep(before);
            return done;
        }

        void order(String order) {
            String[] words = order.substring(1).replace(';', ' ').trim().split(" +");
            int[] a = Arrays.stream(words).mapToInt(Integer::parseInt).toArray();
            String[] names = {"line", "goes", "pocket", "sets", "widens"};
            change(names["lgksw".indexOf(order.charAt(0))], a);
        }

        long digest() {
            List<Integer> all = new ArrayList<>();
            for (int i = 0; i < 5; i++) {
                all.add(told(i));
            }
            for (int i = 0; i < 7; i++) {
                all.add(count(i));
            }
            for (int v : settings) {
                all.add(v);
            }
            for (int l = 0; l < lines.size(); l++) {
                for (int i = 0; i < 7; i++) {
                    all.add(of(l, i));
                }
                for (int i = 0; i < line(l).size() * 3; i++) {
                    all.add(run(l, i / 3, i % 3));
                }
                all.add(bumps(l));
            }
            for (int i = 0; i < pockets.size() * 4; i++) {
                all.add(about(i / 4, i % 4));
            }
            all.addAll(List.of(blocked(), least(), greatest()));
            if (canNow()) {
                for (int[] row : drawn()) {
                    for (int v : row) {
                        all.add(v);
                    }
                }
            }
            long h = 2053;
            for (int v : all) {
                h = 31 * h + v;
            }
            return h;
        }

        long call(String name, int... a) {
            switch (name) {
                case "of": return of(a[0], a[1]);
                case "run": return run(a[0], a[1], a[2]);
                case "about": return about(a[0], a[1]);
                case "setting": range(a[0], 0, 6); return settings[a[0]];
                case "count": return count(a[0]);
                case "draws": line(a[0]); pocket(a[1]); return drawn()[a[0]][a[1]];
                case "length": line(a[0]); must(canNow(), -3); return base(a[0]) + lack(a[0], settings[4]);
                case "blocked": return blocked();
                case "can": range(a[0], 0, 999); return can(a[0]) ? 1 : 0;
                case "least": return least();
                case "greatest": return greatest();
                case "more": return more();
                case "bumps": return bumps(a[0]);
                case "skew": return skew(a[0], a[1]);
                case "type":
                    range(a[0], 0, 127);
                    must(text.length() < 120, -4);
                    return text.append((char) a[0]).length();
                case "clear":
                    int had = text.length();
                    text.setLength(0);
                    return had;
                case "does": return does();
                case "back":
                    must(!states.isEmpty(), -3);
                    restore(states.removeLast());
                    return states.size();
                case "told": return told(a[0]);
                case "digest": return digest();
                default:
                    Object[] before = snapshot();
                    int answer = change(name, a);
                    keep(before);
                    return answer;
            }
        }

        long answer(String name, int... a) {
            try {
                return call(name, a);
            } catch (Refusal r) {
                refused[-2 - r.code]++;
                return r.code;
            }
        }
    }

    private static long answer(SnakedBus x, String name, int... a) {
        switch (name) {
            case "line": return x.line(a[0]);
            case "goes": return x.goes(a[0], a[1], a[2]);
            case "shortens": return x.shortens(a[0]);
            case "pocket": return x.pocket(a[0], a[1]);
            case "widens": return x.widens(a[0], a[1]);
            case "touches": return x.touches(a[0], a[1]);
            case "sets": return x.sets(a[0], a[1]);
            case "of": return x.of(a[0], a[1]);
            case "run": return x.run(a[0], a[1], a[2]);
            case "about": return x.about(a[0], a[1]);
            case "setting": return x.setting(a[0]);
            case "count": return x.count(a[0]);
            case "draws": return x.draws(a[0], a[1]);
            case "length": return x.length(a[0]);
            case "blocked": return x.blocked();
            case "can": return x.can(a[0]);
            case "least": return x.least();
            case "greatest": return x.greatest();
            case "more": return x.more();
            case "bumps": return x.bumps(a[0]);
            case "skew": return x.skew(a[0], a[1]);
            case "type": return x.type(a[0]);
            case "clear": return x.clear();
            case "does": return x.does();
            case "back": return x.back();
            case "told": return x.told(a[0]);
            default: return x.digest();
        }
    }

    private static final String[] CHANGES = {"line", "goes", "goes", "goes", "shortens", "pocket", "widens", "touches",
        "sets", "sets", "sets"};
    private static final String[] QUESTIONS = {"of", "run", "about", "setting", "count", "draws", "length", "blocked",
        "can", "least", "greatest", "more", "bumps", "skew", "told", "digest"};

    private final Dice dice;
    private final Model model = new Model();
    private final SnakedBus bus = new SnakedBus();
    private final StringBuilder calls = new StringBuilder();
    private int wrong = 0;

    private ModelTest(long seed) {
        dice = new Dice(seed);
    }

    private void both(String name, int... a) {
        long want = model.answer(name, a);
        long got = answer(bus, name, a);
        calls.append(name).append(Arrays.toString(a)).append(' ');
        if (got != want) {
            wrong++;
            System.out.println(calls + "answered " + got + ", due is " + want);
        }
    }

    /** Mostly within the bounds, now and then just outside or far off. */
    private int some(int low, int high) {
        int kind = dice.below(40);
        if (kind == 0) {
            return dice.below(2) == 0 ? low - 1 : high + 1;
        }
        if (kind == 1) {
            return dice.below(2) == 0 ? Integer.MIN_VALUE : Integer.MAX_VALUE;
        }
        return kind < 5 ? (dice.below(2) == 0 ? low : high) : dice.from(low, Math.max(low, high));
    }

    private int someLine() {
        return some(0, Math.max(0, model.lines.size() - 1));
    }

    private int somePocket() {
        return some(0, Math.max(0, model.pockets.size() - 1));
    }

    private int someRun() {
        return some(0, model.lines.isEmpty() ? 0 : model.lines.get(dice.below(model.lines.size())).size() - 1);
    }

    private int someTarget() {
        int longest = model.count(4);
        return dice.below(4) == 0 ? some(0, 999) : dice.from(longest, longest + 40);
    }

    private void change() {
        String name = CHANGES[dice.below(CHANGES.length)];
        switch (name) {
            case "line": both(name, some(1, 60)); break;
            case "goes": both(name, someLine(), some(0, 1), some(1, dice.below(2) == 0 ? 9 : 60)); break;
            case "shortens": both(name, someLine()); break;
            case "pocket": both(name, some(1, 60), some(0, 63)); break;
            case "widens": both(name, somePocket(), some(1, 60)); break;
            case "touches": both(name, somePocket(), some(0, 63)); break;
            default: changeSetting();
        }
    }

    private void changeSetting() {
        int k = some(0, 6);
        if (k == 4) {
            both("sets", k, someTarget());
        } else if (k < 0 || k > 6) {
            both("sets", k, 1);
        } else {
            // Kept mild, so that humps can be drawn more often than not.
            int high = k == 2 && dice.below(3) > 0 ? 1 : Model.HIGH[k];
            both("sets", k, some(Model.LOW[k], high));
        }
    }

    private void question() {
        String name = QUESTIONS[dice.below(QUESTIONS.length)];
        switch (name) {
            case "of": both(name, someLine(), some(0, 6)); break;
            case "run": both(name, someLine(), someRun(), some(0, 2)); break;
            case "about": both(name, somePocket(), some(0, 3)); break;
            case "setting": both(name, some(0, 6)); break;
            case "count": both(name, some(0, 6)); break;
            case "draws": both(name, someLine(), somePocket()); break;
            case "length": both(name, someLine()); break;
            case "can": both(name, someTarget()); break;
            case "bumps": both(name, someLine()); break;
            case "skew": both(name, someLine(), someRun()); break;
            case "told": both(name, some(0, 4)); break;
            default: both(name);
        }
    }

    private String someOrder() {
        char letter = "lgksw".charAt(dice.below(5));
        int[] a = letter == 'l' ? new int[] {some(1, 60)}
            : letter == 'g' ? new int[] {someLine(), some(0, 1), some(1, 60)}
            : letter == 'k' ? new int[] {some(1, 60), some(0, 63)}
            : letter == 's' ? new int[] {some(0, 6), some(1, 4)}
            : new int[] {somePocket(), some(1, 60)};
        StringBuilder order = new StringBuilder().append(letter);
        for (int i = 0; i < a.length; i++) {
            order.append(" ".repeat(i == 0 ? dice.below(2) : 1 + dice.below(2)));
            order.append(dice.below(9) == 0 ? "0" : "").append(Math.floorMod(a[i], 1000));
        }
        return order.append(" ".repeat(dice.below(3) / 2)).append(';').append(" ".repeat(dice.below(3) / 2)).toString();
    }

    private void text() {
        if (dice.below(3) > 0) {
            both("clear");
        }
        StringBuilder text = new StringBuilder();
        for (int n = dice.below(4); n >= 0; n--) {
            text.append(someOrder());
        }
        if (dice.below(3) == 0) {
            spoil(text);
        }
        for (int i = 0; i < text.length(); i++) {
            both("type", text.charAt(i));
        }
        both("does");
        both("digest");
    }

    private void spoil(StringBuilder text) {
        int place = dice.below(text.length());
        char c = " ;0123456789lgkswx".charAt(dice.below(18));
        switch (dice.below(4)) {
            case 0: text.setCharAt(place, c); break;
            case 1: text.insert(place, c); break;
            case 2: text.deleteCharAt(place); break;
            default: text.setLength(place);
        }
    }

    private int runOnce() {
        both("digest");
        for (int i = 0; i < CALLS; i++) {
            int kind = dice.below(100);
            if (kind < 45) {
                change();
            } else if (kind < 92) {
                question();
            } else if (kind < 95) {
                both("back");
            } else if (kind < 96) {
                both("type", some(0, 127));
            } else {
                text();
            }
        }
        both("digest");
        return wrong;
    }

    public static void main(String[] args) {
        int wrong = 0;
        for (int seed = 0; seed < RUNS && wrong < 10; seed++) {
            wrong += new ModelTest(1000 + seed).runOnce();
        }
        System.out.println(RUNS + " runs, " + wrong + " wrong answers");
        if (wrong != 0) {
            System.exit(1);
        }
    }
}
