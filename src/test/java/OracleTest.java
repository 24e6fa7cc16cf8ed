import java.util.ArrayList;
import java.util.List;

/** Random texts, sound and faulty ones, and random calls, against the slow and plain Oracle. */
public final class OracleTest {
    private static final int ROUNDS = 6000;
    private final Checks checks = new Checks();
    private long seed = 20261115;
    private final List<String> out = new ArrayList<>();
    private final List<String> plain = new ArrayList<>();
    private final List<String> rows = new ArrayList<>();
    private final List<String> tables = new ArrayList<>();
    private final List<Integer> widths = new ArrayList<>();
    private final List<Integer> heights = new ArrayList<>();
    private int sound;
    private int faulty;
    private final int[] faults = new int[7];

    public static void main(String[] args) {
        new OracleTest().run();
    }

    private int pick(int n) {
        seed = seed * 6364136223846793005L + 1442695040888963407L;
        return (int) ((seed >>> 33) % n);
    }

    private boolean chance(int percent) {
        return pick(100) < percent;
    }

    private void run() {
        for (int n = 0; n < ROUNDS; n++) {
            String text = n % 6 == 5 ? crowdedText() : text();
            SolverHouse house = new SolverHouse();
            // An older problem in the slot must not shine through.
            if (chance(30)) {
                Checks.read(house, 0, text());
                if (house.place() == -2) {
                    house.allowed(0);
                }
            }
            compare(house, text);
        }
        checks.due("sound texts are enough", sound > ROUNDS / 3 ? 1 : 0, 1);
        checks.due("faulty texts are enough", faulty > ROUNDS / 5 ? 1 : 0, 1);
        for (int f = 1; f <= 6; f++) {
            checks.due("fault " + f + " was met", faults[f] > 5 ? 1 : 0, 1);
        }
        checks.end();
    }

    private void compare(SolverHouse house, String text) {
        int before = house.told(0, 3, 0);
        int answer = Checks.read(house, 0, text);
        Oracle oracle;
        try {
            oracle = new Oracle(text);
        } catch (Oracle.Fault f) {
            faulty++;
            faults[f.kind]++;
            checks.due("problem of " + text, answer, -10 - f.kind);
            checks.due("place of " + text, house.place(), f.place);
            checks.due("problem before " + text, house.told(0, 3, 0), before);
            return;
        }
        checks.due("place of sound " + text, house.place(), -2);
        if (oracle.space() > 20000) {
            checks.due("large " + text, answer, -3);
            return;
        }
        sound++;
        checks.due("space of " + text, answer, oracle.space());
        new Questions(checks, house, oracle, text).ask();
    }

    /** Asks all questions while pins, turns and plans change. */
    private final class Questions {
        private final Checks checks;
        private final SolverHouse house;
        private final Oracle oracle;
        private final String text;
        private final Integer[] pins;
        private final int[] plan;
        private List<Oracle.Verdict> all;

        Questions(Checks checks, SolverHouse house, Oracle oracle, String text) {
            this.checks = checks;
            this.house = house;
            this.oracle = oracle;
            this.text = text;
            pins = new Integer[oracle.names.size()];
            plan = new int[pins.length];
            for (int k = 0; k < plan.length; k++) {
                plan[k] = oracle.ranges.get(k)[0];
            }
        }

        private void due(String what, int got, int want) {
            checks.due(what + " of " + text, got, want);
        }

        void ask() {
            for (int round = 0; round < 3; round++) {
                change();
                all = oracle.verdicts(pins);
                counts();
                for (int n = 0; n < 6; n++) {
                    question(pick(7));
                }
                for (int k = 0; k < plan.length; k++) {
                    due("value " + k, house.value(0, k), plan[k]);
                }
            }
        }

        private void change() {
            for (int n = pick(4); n > 0 && plan.length > 0; n--) {
                int k = pick(plan.length);
                int[] range = oracle.ranges.get(k);
                int v = range[0] - 1 + pick(range[1] - range[0] + 3);
                boolean fit = v >= range[0] && v <= range[1];
                if (chance(50)) {
                    due("pin", house.pin(0, k, v), fit ? 1 : 0);
                    pins[k] = fit ? v : null;
                } else {
                    due("plan", house.plan(0, k, v), fit ? 1 : -1);
                    plan[k] = fit ? v : plan[k];
                }
            }
            for (int n = pick(4); n > 0 && !oracle.items.isEmpty(); n--) {
                int k = pick(oracle.items.size());
                boolean on = chance(50);
                due("turn", house.turn(0, k, on), oracle.items.get(k).on ? 1 : 0);
                oracle.items.get(k).on = on;
            }
        }

        private void counts() {
            int allowed = 0;
            int fails = 0;
            for (Oracle.Verdict v : all) {
                allowed += v.isAllowed() ? 1 : 0;
                fails += v.failedAt >= 0 ? 1 : 0;
            }
            due("allowed", house.allowed(0), allowed);
            due("fails", house.fails(0), fails);
            due("left", house.told(0, 4, 0), all.size());
        }

        private void question(int which) {
            switch (which) {
                case 0: judged("judge", house.judge(0), true); break;
                case 1: best(); break;
                case 2: front(); break;
                case 3: due("core", house.core(0), oracle.core(all)); break;
                case 4: nearest(); break;
                case 5: settled(); break;
                default: having(); break;
            }
        }

        private void judged(String what, int answer, boolean told) {
            Oracle.Verdict v = oracle.verdict(plan);
            if (told) {
                due(what, answer, v.failedAt >= 0 ? 2 : v.broken == 0 ? 1 : 0);
            }
            for (int level = 0; level < 3; level++) {
                due(what + " level " + level, house.score(level), v.levels[level]);
            }
            int first = v.failedAt >= 0 ? v.failedAt : v.broken == 0 ? -2 : Integer.numberOfTrailingZeros(v.broken);
            due(what + " first", house.score(3), first);
            due(what + " broken", house.score(4), Integer.bitCount(v.broken));
        }

        private int order(int[] a, int[] b) {
            return java.util.Arrays.compare(a, b);
        }

        private void best() {
            Oracle.Verdict best = null;
            int count = 0;
            for (Oracle.Verdict v : all) {
                if (v.isAllowed()) {
                    int order = best == null ? -1 : order(v.levels, best.levels);
                    count = order < 0 ? 1 : order == 0 ? count + 1 : count;
                    best = order < 0 ? v : best;
                }
            }
            due("best", house.best(0), count);
            if (best != null) {
                System.arraycopy(best.plan, 0, plan, 0, plan.length);
                judged("best", 1, false);
            }
        }

        private void nearest() {
            Oracle.Verdict best = null;
            int fewest = 99;
            for (Oracle.Verdict v : all) {
                int changed = 0;
                for (int k = 0; k < plan.length; k++) {
                    changed += plan[k] == v.plan[k] ? 0 : 1;
                }
                if (v.isAllowed() && (changed < fewest || changed == fewest && order(v.levels, best.levels) < 0)) {
                    best = v;
                    fewest = changed;
                }
            }
            due("nearest", house.nearest(0), best == null ? -2 : fewest);
            if (best != null) {
                System.arraycopy(best.plan, 0, plan, 0, plan.length);
            }
        }

        private void front() {
            int a = pick(3);
            int b = (a + 1 + pick(2)) % 3;
            java.util.TreeSet<List<Integer>> pairs = new java.util.TreeSet<>(
                (x, y) -> x.get(0).equals(y.get(0)) ? x.get(1).compareTo(y.get(1)) : x.get(0).compareTo(y.get(0)));
            for (Oracle.Verdict v : all) {
                if (v.isAllowed()) {
                    pairs.add(List.of(v.levels[a], v.levels[b]));
                }
            }
            List<List<Integer>> kept = new ArrayList<>();
            for (List<Integer> pair : pairs) {
                boolean outdone = pairs.stream().anyMatch(o -> !o.equals(pair)
                    && o.get(0) <= pair.get(0) && o.get(1) <= pair.get(1));
                if (!outdone) {
                    kept.add(pair);
                }
            }
            due("front " + a + b, house.front(0, a, b), kept.size());
            for (int i = 0; i <= kept.size(); i++) {
                for (int which = 0; which < 2; which++) {
                    due("pair " + i, house.pair(i, which), i < kept.size() ? kept.get(i).get(which) : 10000000);
                }
            }
        }

        private void settled() {
            int bits = 0;
            List<int[]> plans = new ArrayList<>();
            for (Oracle.Verdict v : all) {
                if (v.isAllowed()) {
                    plans.add(v.plan);
                }
            }
            for (int k = 0; k < plan.length && !plans.isEmpty(); k++) {
                int var = k;
                bits |= plans.stream().allMatch(p -> p[var] == plans.get(0)[var]) ? 1 << k : 0;
            }
            due("settled", house.settled(0), bits);
        }

        private void having() {
            if (plan.length == 0) {
                due("having", house.having(0, 0, 0), -1);
                return;
            }
            int k = pick(plan.length);
            int[] range = oracle.ranges.get(k);
            int v = range[0] + pick(range[1] - range[0] + 1);
            due("having", house.having(0, k, v),
                (int) all.stream().filter(w -> w.isAllowed() && w.plan[k] == v).count());
            due("having less", house.having(0, k, range[0] - 1), -1);
            due("having more", house.having(0, k, range[1] + 1), -1);
        }
    }

    // ---- texts

    private void clear() {
        out.clear();
        plain.clear();
        rows.clear();
        tables.clear();
        widths.clear();
        heights.clear();
    }

    private String text() {
        clear();
        variables();
        for (int n = pick(3); n > 0; n--) {
            table();
        }
        for (int n = 1 + pick(6); n > 0; n--) {
            item();
        }
        if (chance(40)) {
            mutate();
        }
        String text = join();
        return chance(8) ? spoil(text) : text;
    }

    // ---- texts about as full as texts may be

    private String crowdedText() {
        clear();
        int limit = pick(5);
        int variables = limit == 0 ? 11 + pick(3) : pick(6);
        for (int told = 0; told < variables;) {
            int size = chance(40) ? 1 + pick(5) : 0;
            say("var", "v" + told);
            if (size > 0) {
                say("[", Integer.toString(size), "]");
            }
            (size > 0 ? rows : plain).add("v" + told);
            say("0", "..", Integer.toString(pick(2)), ";");
            told += Math.max(1, size);
        }
        crowdedTables(limit == 1 ? 7 + pick(3) : pick(3), limit == 2 ? 23 + pick(3) : 1 + pick(3));
        for (int n = limit == 3 ? 15 + pick(3) : pick(4); n > 0; n--) {
            item();
        }
        if (limit == 4) {
            say("cost", "1", ":", "1");
            for (int most = 398 + pick(4); out.size() < most;) {
                say(pick(9) == 0 ? "-" : "+", "1");
            }
            say(";");
        }
        if (chance(20)) {
            mutate();
        }
        return join();
    }

    private void crowdedTables(int count, int numbers) {
        for (int t = 0; t < count; t++) {
            say("table", "t" + t, "=");
            int width = 1 + pick(numbers);
            for (int n = 1; n <= numbers; n++) {
                integer(pick(9) - 4);
                say(n == numbers ? ";" : n % width == 0 ? "|" : ",");
            }
        }
    }

    private void say(String... words) {
        for (String word : words) {
            out.add(word);
        }
    }

    private void integer(int n) {
        if (n < 0) {
            say("-");
        }
        say(Integer.toString(Math.abs(n)));
    }

    private void variables() {
        int budget = 400;
        for (int n = 1 + pick(4); n > 0; n--) {
            int size = chance(35) ? 1 + pick(4) : 0;
            int wide = 1 + pick(5);
            int plans = (int) Math.pow(wide, Math.max(size, 1));
            if (plans > budget && !chance(3)) {
                continue;
            }
            budget = Math.max(1, budget / plans);
            String name = "abcdefgh".substring(n, n + 1) + (size > 0 ? "Row" : "");
            say("var", name);
            if (size > 0) {
                say("[", Integer.toString(size), "]");
                rows.add(name);
            } else {
                plain.add(name);
            }
            int least = chance(1) ? -999 - pick(3) : chance(1) ? 999 + pick(3) : pick(7) - 3;
            integer(least);
            say("..");
            integer(chance(1) ? 1000 : least + wide - 1);
            say(";");
        }
    }

    private void table() {
        int height = 1 + pick(3);
        int width = 1 + pick(4);
        String name = "t" + tables.size();
        say("table", name, "=");
        for (int r = 0; r < height; r++) {
            for (int i = 0; i < width; i++) {
                integer(pick(8) - 2);
                say(i + 1 < width ? "," : r + 1 < height ? "|" : ";");
            }
        }
        tables.add(name);
        widths.add(width);
        heights.add(height);
    }

    private void item() {
        switch (pick(4)) {
            case 0:
                say("soft", Integer.toString(pick(3)), Integer.toString(1 + pick(9)), ":");
                cond(0);
                break;
            case 1:
                say("cost", Integer.toString(pick(3)), ":");
                exp(0);
                break;
            default:
                say("rule");
                if (chance(40)) {
                    say("r" + pick(90), ":");
                }
                cond(0);
                break;
        }
        say(";");
    }

    private void cond(int depth) {
        fact(depth);
        for (int n = chance(50) ? pick(3) : 0; n > 0; n--) {
            say(pick(3) == 0 ? "and" : pick(2) == 0 ? "or" : "->");
            fact(depth);
        }
    }

    private void fact(int depth) {
        int which = depth > 3 ? 9 : pick(14);
        switch (which) {
            case 0:
                say("not");
                fact(depth + 1);
                break;
            case 1:
                say("{");
                cond(depth + 1);
                say("}");
                break;
            case 2: case 3: case 4:
                say(which == 2 ? "distinct" : which == 3 ? "ordered" : "circuit");
                list(depth + 1, 1 + pick(3));
                break;
            case 5:
                fits(depth + 1);
                break;
            case 6:
                if (tables.isEmpty()) {
                    comparison(depth);
                } else {
                    int t = pick(tables.size());
                    say("in", tables.get(t), "(");
                    for (int i = 0; i < widths.get(t); i++) {
                        exp(depth + 2);
                        say(i + 1 < widths.get(t) ? "," : ")");
                    }
                }
                break;
            default:
                comparison(depth);
        }
    }

    private void comparison(int depth) {
        exp(depth);
        say(new String[] {"=", "!=", "<", "<=", ">", ">="}[pick(6)]);
        exp(depth);
    }

    private void fits(int depth) {
        say("fits", "(");
        for (int n = 1 + pick(3); n > 0; n--) {
            exp(depth + 1);
            say(",");
            exp(depth + 1);
            say(",");
            exp(depth + 1);
            say("|");
        }
        exp(depth + 1);
        say(")");
    }

    private void list(int depth, int size) {
        say("(");
        elements(depth, size);
        say(")");
    }

    private void elements(int depth, int size) {
        for (int i = 0; i < size; i++) {
            if (!rows.isEmpty() && chance(40)) {
                say(rows.get(pick(rows.size())));
            } else {
                exp(depth + 1);
            }
            if (i + 1 < size) {
                say(",");
            }
        }
    }

    private void exp(int depth) {
        unit(depth);
        for (int n = depth < 3 && chance(40) ? 1 + pick(2) : 0; n > 0; n--) {
            say(new String[] {"+", "-", "*", "/", "mod", "+", "-"}[pick(7)]);
            unit(depth);
        }
    }

    private void unit(int depth) {
        int which = pick(depth > 3 ? 8 : chance(15) ? 15 : 14);
        if (which < 4 && !plain.isEmpty()) {
            say(plain.get(pick(plain.size())));
        } else if (which < 7) {
            say(Integer.toString(chance(3) ? 900 + pick(9100) : pick(6)));
        } else if (which == 7 && !rows.isEmpty()) {
            say(rows.get(pick(rows.size())), "[");
            unit(depth + 2);
            say("]");
        } else if (which == 8) {
            say("-");
            unit(depth + 1);
        } else if (which == 9) {
            say("(");
            exp(depth + 1);
            say(")");
        } else if (which == 10) {
            say(new String[] {"min", "max", "sum"}[pick(3)]);
            list(depth + 1, 1 + pick(3));
        } else if (which == 11) {
            say("abs", "(");
            exp(depth + 1);
            say(")");
        } else if (which == 12) {
            say("count", "(");
            elements(depth + 1, 1 + pick(3));
            say("|");
            exp(depth + 1);
            say(")");
        } else if (which == 13 && !tables.isEmpty()) {
            int t = pick(tables.size());
            say(tables.get(t), "[");
            if (heights.get(t) > 1) {
                unit(depth + 2);
                say(",");
            }
            unit(depth + 2);
            say("]");
        } else if (which == 14) {
            // Near what exps may be, so that sums go beyond it on their way.
            say("sum", "(", "9999", "*", "100", ",");
            integer(chance(50) ? 100 : -100);
            say(",");
            exp(depth + 1);
            say(",");
            exp(depth + 1);
            say(")");
        } else {
            say(Integer.toString(pick(4)));
        }
    }

    private String anyToken() {
        String[] some = ("var table rule soft cost and or not mod min max abs count sum distinct ordered"
            + " circuit fits in + - * / ( ) [ ] { } , ; : = != < <= > >= .. -> | a b c d aRow bRow t0 t1 r1 0 1 2 9"
            + " 100 1000 99999 abcdefgh abcdefghi ! . $").split(" ");
        return some[pick(some.length)];
    }

    private void mutate() {
        if (out.isEmpty()) {
            return;
        }
        int at = pick(out.size());
        switch (pick(7)) {
            case 0: out.remove(at); break;
            case 1: out.add(at, anyToken()); break;
            case 2: out.set(at, anyToken()); break;
            case 3: out.set(at, out.get(pick(out.size()))); break;
            case 4: java.util.Collections.swap(out, at, pick(out.size())); break;
            case 5:
                while (out.size() > at) {
                    out.remove(at);
                }
                break;
            default:
                nest(at);
                break;
        }
    }

    /** Puts about as many signs before a token as may stand around it. */
    private void nest(int at) {
        String sign = new String[] {"-", "(", "{", "not"}[pick(4)];
        for (int n = 10 + pick(5); n > 0; n--) {
            out.add(at, sign);
        }
    }

    private String join() {
        StringBuilder text = new StringBuilder();
        boolean wide = chance(50);
        for (String word : out) {
            boolean tight = text.length() > 0 && Character.isLetterOrDigit(text.charAt(text.length() - 1))
                && Character.isLetterOrDigit(word.charAt(0));
            if (wide || tight || chance(10)) {
                text.append(chance(4) ? " # var\n" : chance(10) ? "\t\r\n " : " ");
            }
            text.append(word);
        }
        return text.length() > 2900 ? text.substring(0, 2900) : text.toString();
    }

    private String spoil(String text) {
        StringBuilder spoiled = new StringBuilder(text);
        int at = pick(Math.max(1, text.length()));
        if (at < text.length()) {
            spoiled.setCharAt(at, (char) pick(256));
        }
        return spoiled.toString();
    }
}
