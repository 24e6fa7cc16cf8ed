import java.util.ArrayList;
import java.util.Arrays;
import java.util.List;
import java.util.stream.Collectors;

/** All promises of the document once more, over the Oracle: slow and plain, to test against. */
public final class PlainHouse {
    private static final int BAD = -1;
    private static final int NO = -2;
    private static final int FULL = -3;

    /** A problem that was taken, and what is kept with it. */
    static final class Kept {
        final Oracle oracle;
        final Integer[] pins;
        final int[] plan;
        private List<Oracle.Verdict> left;

        Kept(Oracle oracle) {
            this.oracle = oracle;
            pins = new Integer[oracle.names.size()];
            plan = oracle.ranges.stream().mapToInt(range -> range[0]).toArray();
        }

        boolean hasVariable(int k) {
            return k >= 0 && k < plan.length;
        }

        boolean hasValue(int k, int v) {
            return hasVariable(k) && v >= oracle.ranges.get(k)[0] && v <= oracle.ranges.get(k)[1];
        }

        boolean hasItem(int k) {
            return k >= 0 && k < oracle.items.size();
        }

        void forget() {
            left = null;
        }

        List<Oracle.Verdict> left() {
            if (left == null) {
                left = oracle.verdicts(pins);
            }
            return left;
        }

        List<Oracle.Verdict> allowed() {
            return left().stream().filter(Oracle.Verdict::isAllowed).collect(Collectors.toList());
        }

        void choose(Oracle.Verdict v) {
            System.arraycopy(v.plan, 0, plan, 0, plan.length);
        }

        int distance(Oracle.Verdict v) {
            int changed = 0;
            for (int k = 0; k < plan.length; k++) {
                changed += plan[k] == v.plan[k] ? 0 : 1;
            }
            return changed;
        }
    }

    private final StringBuilder tape = new StringBuilder();
    private final Kept[] problems = new Kept[4];
    private int place = NO;
    private int[] score;
    private List<int[]> pairs = new ArrayList<>();

    /** The fault of the latest text, 0 when it had none. */
    int latestFault;

    private static boolean isPlace(int p) {
        return p >= 0 && p < 4;
    }

    Kept kept(int p) {
        return isPlace(p) ? problems[p] : null;
    }

    /** BAD or NO when there is no problem p, else 0. */
    private int lacking(int p) {
        return !isPlace(p) ? BAD : problems[p] == null ? NO : 0;
    }

    public int feed(int a, int b, int c, int d, int e) {
        if (tape.length() > 2980) {
            return FULL;
        }
        for (int four : new int[] {a, b, c, d, e}) {
            for (int shift = 24; shift >= 0; shift -= 8) {
                tape.append((char) (four >>> shift & 255));
            }
        }
        return tape.length();
    }

    public int cut(int n) {
        if (n < 0 || n > tape.length()) {
            return BAD;
        }
        tape.setLength(tape.length() - n);
        return tape.length();
    }

    public int problem(int p) {
        if (!isPlace(p)) {
            return BAD;
        }
        String text = tape.toString();
        tape.setLength(0);
        place = NO;
        latestFault = 0;
        try {
            Oracle oracle = new Oracle(text);
            if (oracle.space() > 20000) {
                return FULL;
            }
            problems[p] = new Kept(oracle);
            return (int) oracle.space();
        } catch (Oracle.Fault f) {
            place = f.place;
            latestFault = f.kind;
            return -10 - f.kind;
        }
    }

    public int place() {
        return place;
    }

    public int told(int p, int what, int k) {
        if (what < 0 || what > 11) {
            return BAD;
        }
        if (lacking(p) != 0) {
            return lacking(p);
        }
        Kept q = problems[p];
        if (what >= 5 && what <= 7 && !q.hasVariable(k) || what >= 8 && !q.hasItem(k)) {
            return BAD;
        }
        switch (what) {
            case 0: return q.oracle.names.size();
            case 1: return q.oracle.tables.size();
            case 2: return q.oracle.items.size();
            case 3: return (int) q.oracle.space();
            case 4: return q.left().size();
            case 5: return q.oracle.ranges.get(k)[0];
            case 6: return q.oracle.ranges.get(k)[1];
            case 7: return q.pins[k] == null ? 10000 : q.pins[k];
            case 8: return q.oracle.items.get(k).kind;
            case 9: return q.oracle.items.get(k).level;
            case 10: return q.oracle.items.get(k).weight;
            default: return q.oracle.items.get(k).on ? 1 : 0;
        }
    }

    public int name(int p, int sort, int k, int i) {
        if (sort < 0 || sort > 2) {
            return BAD;
        }
        if (lacking(p) != 0) {
            return lacking(p);
        }
        Oracle oracle = problems[p].oracle;
        List<String> names = sort == 0 ? oracle.names
            : sort == 1 ? oracle.tables.stream().map(t -> t.name).collect(Collectors.toList())
            : oracle.items.stream().map(item -> item.name).collect(Collectors.toList());
        return k >= 0 && k < names.size() && i >= 0 && i < names.get(k).length() ? names.get(k).charAt(i) : BAD;
    }

    public int turn(int p, int k, boolean on) {
        if (lacking(p) != 0) {
            return lacking(p);
        }
        Kept q = problems[p];
        if (!q.hasItem(k)) {
            return BAD;
        }
        int was = q.oracle.items.get(k).on ? 1 : 0;
        q.oracle.items.get(k).on = on;
        q.forget();
        return was;
    }

    public int pin(int p, int k, int v) {
        if (lacking(p) != 0) {
            return lacking(p);
        }
        Kept q = problems[p];
        if (!q.hasVariable(k)) {
            return BAD;
        }
        q.pins[k] = q.hasValue(k, v) ? v : null;
        q.forget();
        return q.pins[k] == null ? 0 : 1;
    }

    public int plan(int p, int k, int v) {
        if (lacking(p) != 0) {
            return lacking(p);
        }
        if (!problems[p].hasValue(k, v)) {
            return BAD;
        }
        problems[p].plan[k] = v;
        return 1;
    }

    public int value(int p, int k) {
        return lacking(p) == 0 && problems[p].hasVariable(k) ? problems[p].plan[k] : 10000;
    }

    public int judge(int p) {
        if (lacking(p) != 0) {
            return lacking(p);
        }
        Oracle.Verdict v = problems[p].oracle.verdict(problems[p].plan);
        int first = v.broken == 0 ? NO : Integer.numberOfTrailingZeros(v.broken);
        score = Arrays.copyOf(v.levels, 5);
        score[3] = v.failedAt >= 0 ? v.failedAt : first;
        score[4] = Integer.bitCount(v.broken);
        return v.failedAt >= 0 ? 2 : v.broken == 0 ? 1 : 0;
    }

    public int score(int what) {
        return what < 0 || what > 4 ? BAD : score == null ? NO : score[what];
    }

    public int best(int p) {
        if (lacking(p) != 0) {
            return lacking(p);
        }
        Oracle.Verdict best = null;
        int count = 0;
        for (Oracle.Verdict v : problems[p].allowed()) {
            int order = best == null ? -1 : Arrays.compare(v.levels, best.levels);
            count = order < 0 ? 1 : order == 0 ? count + 1 : count;
            best = order < 0 ? v : best;
        }
        if (best != null) {
            problems[p].choose(best);
            judge(p);
        }
        return count;
    }

    public int allowed(int p) {
        return lacking(p) != 0 ? lacking(p) : problems[p].allowed().size();
    }

    public int fails(int p) {
        return lacking(p) != 0 ? lacking(p)
            : (int) problems[p].left().stream().filter(v -> v.failedAt >= 0).count();
    }

    public int front(int p, int a, int b) {
        if (a < 0 || a > 2 || b < 0 || b > 2 || a == b) {
            return BAD;
        }
        if (lacking(p) != 0) {
            return lacking(p);
        }
        List<int[]> all = new ArrayList<>();
        for (Oracle.Verdict v : problems[p].allowed()) {
            int[] pair = {v.levels[a], v.levels[b]};
            if (all.stream().noneMatch(other -> Arrays.equals(other, pair))) {
                all.add(pair);
            }
        }
        pairs = all.stream().filter(pair -> all.stream().noneMatch(other ->
            other != pair && other[0] <= pair[0] && other[1] <= pair[1]))
            .sorted((x, y) -> Integer.compare(x[0], y[0])).collect(Collectors.toList());
        return pairs.size();
    }

    public int pair(int i, int which) {
        return i < 0 || i >= pairs.size() || which < 0 || which > 1 ? 10000000 : pairs.get(i)[which];
    }

    public int core(int p) {
        return lacking(p) != 0 ? lacking(p) : problems[p].oracle.core(problems[p].left());
    }

    public int nearest(int p) {
        if (lacking(p) != 0) {
            return lacking(p);
        }
        Kept q = problems[p];
        Oracle.Verdict nearest = null;
        for (Oracle.Verdict v : q.allowed()) {
            int order = nearest == null ? -1 : q.distance(v) - q.distance(nearest);
            if (order < 0 || order == 0 && Arrays.compare(v.levels, nearest.levels) < 0) {
                nearest = v;
            }
        }
        if (nearest == null) {
            return NO;
        }
        int changed = q.distance(nearest);
        q.choose(nearest);
        return changed;
    }

    public int settled(int p) {
        if (lacking(p) != 0) {
            return lacking(p);
        }
        List<Oracle.Verdict> allowed = problems[p].allowed();
        int bits = 0;
        for (int k = 0; k < problems[p].plan.length && !allowed.isEmpty(); k++) {
            int var = k;
            bits |= allowed.stream().allMatch(v -> v.plan[var] == allowed.get(0).plan[var]) ? 1 << k : 0;
        }
        return bits;
    }

    public int having(int p, int k, int v) {
        if (lacking(p) != 0) {
            return lacking(p);
        }
        return !problems[p].hasValue(k, v) ? BAD
            : (int) problems[p].allowed().stream().filter(w -> w.plan[k] == v).count();
    }
}
