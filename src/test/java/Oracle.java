import java.util.ArrayList;
import java.util.HashMap;
import java.util.List;
import java.util.Map;

/**
 * The document once more, in another way: a text becomes a tree of conds and exps, and all
 * questions are answered by going through all plans. Slow and plain, to test against.
 */
final class Oracle {
    /** A fault of a text. */
    static final class Fault extends Exception {
        private static final long serialVersionUID = 1;
        final int kind;
        final int place;

        Fault(int kind, int place) {
            this.kind = kind;
            this.place = place;
        }
    }

    /** An exp FAILS. */
    static final class Fails extends Exception {
        private static final long serialVersionUID = 1;
    }

    interface Exp {
        int of(int[] plan) throws Fails;
    }

    interface Cond {
        boolean of(int[] plan) throws Fails;
    }

    static final class Item {
        int kind;
        int level;
        int weight;
        String name = "";
        Cond cond;
        Exp exp;
        boolean on = true;
    }

    static final class Table {
        String name;
        final List<int[]> rows = new ArrayList<>();
    }

    static final class Token {
        final String text;
        final int place;
        final char sort;

        Token(String text, int place, char sort) {
            this.text = text;
            this.place = place;
            this.sort = sort;
        }
    }

    static final String WORDS = " var table rule soft cost and or not mod min max abs count sum distinct"
        + " ordered circuit fits in ";

    final List<String> names = new ArrayList<>();
    final List<int[]> ranges = new ArrayList<>();
    final Map<String, int[]> rows = new HashMap<>();
    final List<Table> tables = new ArrayList<>();
    final List<Item> items = new ArrayList<>();
    private final String text;
    private final List<Token> tokens = new ArrayList<>();
    private int at;

    Oracle(String text) throws Fault {
        this.text = text;
        split();
        while (!sees("")) {
            item();
        }
    }

    // ---- tokens: sort 'n' NAME, 'w' word, 'd' NUMBER, 's' sign, '?' none, 'e' the end

    private void split() {
        String rest = text;
        int place = 0;
        while (true) {
            String bare = rest.replaceFirst("^([\\t\\n\\r ]+|#[^\\n]*)+", "");
            place += rest.length() - bare.length();
            rest = bare;
            if (rest.isEmpty()) {
                tokens.add(new Token("", text.length(), 'e'));
                return;
            }
            String name = rest.replaceFirst("(?s)^([A-Za-z][A-Za-z0-9]*|[0-9]+|!=|<=|>=|\\.\\.|->|[-+*/()\\[\\]{},;:=<>|]).*$", "$1");
            if (name.length() == rest.length() && !rest.matches("[A-Za-z][A-Za-z0-9]*|[0-9]+|!=|<=|>=|\\.\\.|->|[-+*/()\\[\\]{},;:=<>|]")) {
                tokens.add(new Token(name, place, '?'));
                return;
            }
            char c = name.charAt(0);
            char sort = Character.isLetter(c) ? 'n' : Character.isDigit(c) ? 'd' : 's';
            if (sort == 'n' && WORDS.contains(" " + name + " ")) {
                sort = 'w';
            }
            if (sort == 'n' && name.length() > 8 || sort == 'd' && name.length() > 4) {
                tokens.add(new Token(name, place, '?'));
                return;
            }
            tokens.add(new Token(name, place, sort));
            place += name.length();
            rest = rest.substring(name.length());
        }
    }

    private Token here() {
        return tokens.get(at);
    }

    private Token behind() {
        return tokens.get(Math.min(at + 1, tokens.size() - 1));
    }

    /** Whether this word or sign ("" the end) stands here. */
    private boolean sees(String what) {
        return here().text.equals(what) && "wse".indexOf(here().sort) >= 0;
    }

    private Fault cannotStand() {
        return new Fault(here().sort == '?' ? 1 : 2, here().place);
    }

    private Token any() throws Fault {
        if (at >= 400) {
            throw new Fault(3, here().place);
        }
        return tokens.get(at++);
    }

    private void expect(String what) throws Fault {
        if (!sees(what)) {
            throw cannotStand();
        }
        any();
    }

    private Token expectSort(char sort) throws Fault {
        if (here().sort != sort) {
            throw cannotStand();
        }
        return any();
    }

    private int number(int least, int greatest) throws Fault {
        Token t = expectSort('d');
        int n = Integer.parseInt(t.text);
        if (n < least || n > greatest) {
            throw new Fault(6, t.place);
        }
        return n;
    }

    private int integer() throws Fault {
        boolean minus = sees("-");
        if (minus) {
            any();
        }
        int n = number(0, 9999);
        return minus ? -n : n;
    }

    // ---- items

    private boolean isTold(String name) {
        return names.contains(name) || tables.stream().anyMatch(t -> t.name.equals(name))
            || items.stream().anyMatch(i -> i.name.equals(name));
    }

    private String newName(boolean tooMuch) throws Fault {
        if (here().sort == 'n' && tooMuch) {
            throw new Fault(3, here().place);
        }
        Token t = expectSort('n');
        if (isTold(t.text)) {
            throw new Fault(4, t.place);
        }
        return t.text;
    }

    private void item() throws Fault {
        if (sees("var")) {
            any();
            variable();
        } else if (sees("table")) {
            if (tables.size() == 8) {
                throw new Fault(3, here().place);
            }
            any();
            table();
        } else if (sees("rule") || sees("soft") || sees("cost")) {
            if (items.size() == 16) {
                throw new Fault(3, here().place);
            }
            Item item = new Item();
            switch (any().text) {
                case "rule":
                    if (here().sort == 'n' && behind().text.equals(":")) {
                        item.name = newName(false);
                        expect(":");
                    }
                    item.cond = cond(0);
                    break;
                case "soft":
                    item.kind = 1;
                    item.level = number(0, 2);
                    item.weight = number(1, 99);
                    expect(":");
                    item.cond = cond(0);
                    break;
                default:
                    item.kind = 2;
                    item.level = number(0, 2);
                    expect(":");
                    item.exp = exp(0);
            }
            expect(";");
            items.add(item);
        } else {
            throw cannotStand();
        }
    }

    private void variable() throws Fault {
        int place = here().place;
        String name = newName(names.size() >= 12);
        int size = 0;
        if (sees("[")) {
            any();
            size = number(1, 8);
            if (names.size() + size > 12) {
                throw new Fault(3, place);
            }
            expect("]");
        }
        int[] range = new int[2];
        for (int end = 0; end < 2; end++) {
            if (end == 1) {
                expect("..");
            }
            place = here().place;
            range[end] = integer();
            if (Math.abs(range[end]) > 999 || end == 1 && range[1] < range[0]) {
                throw new Fault(6, place);
            }
        }
        expect(";");
        if (size > 0) {
            rows.put(name, new int[] {names.size(), size});
        }
        for (int n = 0; n < Math.max(size, 1); n++) {
            names.add(name);
            ranges.add(range);
        }
    }

    private void table() throws Fault {
        Table table = new Table();
        table.name = newName(false);
        expect("=");
        int numbers = 0;
        boolean more = true;
        while (more) {
            int first = here().place;
            List<Integer> row = new ArrayList<>();
            while (true) {
                int place = here().place;
                row.add(integer());
                if (++numbers > 24) {
                    throw new Fault(3, place);
                }
                if (!sees(",")) {
                    break;
                }
                any();
            }
            more = sees("|");
            if (!more && !sees(";")) {
                throw cannotStand();
            }
            any();
            table.rows.add(row.stream().mapToInt(i -> i).toArray());
            if (table.rows.get(0).length != row.size()) {
                throw new Fault(6, first);
            }
        }
        tables.add(table);
    }

    // ---- conds

    private void lookDepth(int depth) throws Fault {
        if (depth > 12) {
            throw new Fault(here().sort == '?' ? 1 : 3, here().place);
        }
    }

    private Cond cond(int depth) throws Fault {
        List<Cond> parts = new ArrayList<>();
        parts.add(clause(depth));
        while (sees("->")) {
            any();
            parts.add(clause(depth));
        }
        Cond all = parts.get(parts.size() - 1);
        for (int i = parts.size() - 2; i >= 0; i--) {
            Cond a = parts.get(i);
            Cond b = all;
            all = plan -> !a.of(plan) || b.of(plan);
        }
        return all;
    }

    private Cond clause(int depth) throws Fault {
        Cond all = term(depth);
        while (sees("or")) {
            any();
            Cond a = all;
            Cond b = term(depth);
            all = plan -> a.of(plan) || b.of(plan);
        }
        return all;
    }

    private Cond term(int depth) throws Fault {
        Cond all = fact(depth);
        while (sees("and")) {
            any();
            Cond a = all;
            Cond b = fact(depth);
            all = plan -> a.of(plan) && b.of(plan);
        }
        return all;
    }

    private Cond fact(int depth) throws Fault {
        lookDepth(depth);
        if (sees("not")) {
            any();
            Cond a = fact(depth + 1);
            return plan -> !a.of(plan);
        }
        if (sees("{")) {
            any();
            Cond a = cond(depth + 1);
            expect("}");
            return a;
        }
        if (sees("distinct") || sees("ordered") || sees("circuit")) {
            String which = any().text;
            List<Exp> list = list(depth);
            return plan -> special(which, all(list, plan));
        }
        if (sees("fits")) {
            return fits(depth);
        }
        if (sees("in")) {
            return in(depth);
        }
        Exp a = exp(depth);
        if (here().sort != 's' || !" = != < <= > >= ".contains(" " + here().text + " ")) {
            throw cannotStand();
        }
        String relation = any().text;
        Exp b = exp(depth);
        return plan -> {
            int order = Integer.compare(a.of(plan), b.of(plan));
            switch (relation) {
                case "=": return order == 0;
                case "!=": return order != 0;
                case "<": return order < 0;
                case "<=": return order <= 0;
                case ">": return order > 0;
                default: return order >= 0;
            }
        };
    }

    private Cond fits(int depth) throws Fault {
        any();
        expect("(");
        List<Exp> parts = new ArrayList<>();
        while (true) {
            Exp first = exp(depth + 1);
            parts.add(first);
            if (parts.size() > 1 && !sees(",")) {
                expect(")");
                break;
            }
            expect(",");
            parts.add(exp(depth + 1));
            expect(",");
            parts.add(exp(depth + 1));
            expect("|");
        }
        return plan -> {
            int[] v = all(parts, plan);
            Map<Long, Long> used = new HashMap<>();
            int most = v[v.length - 1];
            for (int i = 0; i + 3 < v.length; i += 3) {
                // Long tasks are looked at by their ends and the ends of others alone.
                for (long time : times(v)) {
                    if (time >= v[i] && time < (long) v[i] + v[i + 1]) {
                        used.merge(time, (long) v[i + 2], Long::sum);
                    }
                }
            }
            return used.values().stream().allMatch(u -> u <= most);
        };
    }

    private static List<Long> times(int[] v) {
        java.util.TreeSet<Long> times = new java.util.TreeSet<>();
        for (int i = 0; i + 3 < v.length; i += 3) {
            for (long time = v[i]; time < (long) v[i] + v[i + 1] && time < v[i] + 40L; time++) {
                times.add(time);
            }
            times.add((long) v[i] + v[i + 1]);
        }
        return new ArrayList<>(times);
    }

    private Cond in(int depth) throws Fault {
        any();
        Token name = expectSort('n');
        Table table = find(name.text);
        if (table == null) {
            throw new Fault(5, name.place);
        }
        int sign = here().place;
        List<Exp> list = list(depth);
        if (list.size() != table.rows.get(0).length) {
            throw new Fault(6, sign);
        }
        return plan -> {
            int[] v = all(list, plan);
            return table.rows.stream().anyMatch(row -> java.util.Arrays.equals(row, v));
        };
    }

    private Table find(String name) {
        return tables.stream().filter(t -> t.name.equals(name)).findFirst().orElse(null);
    }

    private static boolean special(String which, int[] v) {
        switch (which) {
            case "distinct":
                return java.util.Arrays.stream(v).distinct().count() == v.length;
            case "ordered": {
                int[] sorted = v.clone();
                java.util.Arrays.sort(sorted);
                return java.util.Arrays.equals(sorted, v);
            }
            default: {
                java.util.Set<Integer> seen = new java.util.HashSet<>();
                int here = 0;
                while (here >= 0 && here < v.length && seen.add(here)) {
                    here = v[here];
                }
                return here == 0 && seen.size() == v.length;
            }
        }
    }

    private static int[] all(List<Exp> list, int[] plan) throws Fails {
        int[] v = new int[list.size()];
        for (int i = 0; i < v.length; i++) {
            v[i] = list.get(i).of(plan);
        }
        return v;
    }

    // ---- exps

    private List<Exp> list(int depth) throws Fault {
        expect("(");
        List<Exp> list = elements(depth + 1);
        expect(")");
        return list;
    }

    private List<Exp> elements(int depth) throws Fault {
        List<Exp> list = new ArrayList<>();
        while (true) {
            lookDepth(depth);
            int[] row = here().sort == 'n' ? rows.get(here().text) : null;
            if (row != null && behind().sort == 's' && ",)|".contains(behind().text)) {
                any();
                for (int i = 0; i < row[1]; i++) {
                    int k = row[0] + i;
                    list.add(plan -> plan[k]);
                }
            } else {
                list.add(exp(depth));
            }
            if (!sees(",")) {
                return list;
            }
            any();
        }
    }

    private static int within(long n) throws Fails {
        if (n < -1000000 || n > 1000000) {
            throw new Fails();
        }
        return (int) n;
    }

    private static int added(int[] numbers) throws Fails {
        int whole = 0;
        for (int n : numbers) {
            whole = within((long) whole + n);
        }
        return whole;
    }

    private Exp exp(int depth) throws Fault {
        Exp all = product(depth);
        while (sees("+") || sees("-")) {
            boolean plus = any().text.equals("+");
            Exp a = all;
            Exp b = product(depth);
            all = plan -> {
                long x = a.of(plan);
                long y = b.of(plan);
                return within(plus ? x + y : x - y);
            };
        }
        return all;
    }

    private Exp product(int depth) throws Fault {
        Exp all = unit(depth);
        while (sees("*") || sees("/") || sees("mod")) {
            String sign = any().text;
            Exp a = all;
            Exp b = unit(depth);
            all = plan -> {
                long x = a.of(plan);
                long y = b.of(plan);
                if (sign.equals("*")) {
                    return within(x * y);
                }
                if (y == 0) {
                    throw new Fails();
                }
                return within(sign.equals("/") ? x / y : x - x / y * y);
            };
        }
        return all;
    }

    private Exp unit(int depth) throws Fault {
        lookDepth(depth);
        if (sees("-")) {
            any();
            Exp a = unit(depth + 1);
            return plan -> -a.of(plan);
        }
        if (here().sort == 'd') {
            int n = number(0, 9999);
            return plan -> n;
        }
        if (here().sort == 'n') {
            return named(depth);
        }
        if (sees("(")) {
            any();
            Exp a = exp(depth + 1);
            expect(")");
            return a;
        }
        if (sees("min") || sees("max") || sees("sum")) {
            String which = any().text;
            List<Exp> list = list(depth);
            return plan -> {
                java.util.stream.IntStream v = java.util.Arrays.stream(all(list, plan));
                return which.equals("min") ? v.min().getAsInt() : which.equals("max") ? v.max().getAsInt()
                    : added(v.toArray());
            };
        }
        if (sees("abs")) {
            any();
            expect("(");
            Exp a = exp(depth + 1);
            expect(")");
            return plan -> Math.abs(a.of(plan));
        }
        if (sees("count")) {
            any();
            expect("(");
            List<Exp> list = elements(depth + 1);
            expect("|");
            Exp sought = exp(depth + 1);
            expect(")");
            return plan -> {
                int[] v = all(list, plan);
                int e = sought.of(plan);
                return (int) java.util.Arrays.stream(v).filter(i -> i == e).count();
            };
        }
        throw cannotStand();
    }

    private Exp named(int depth) throws Fault {
        Token name = any();
        boolean open = sees("[");
        Table table = find(name.text);
        int[] row = rows.get(name.text);
        boolean variable = names.contains(name.text);
        if (!variable && table == null || open != (row != null || table != null)) {
            throw new Fault(5, name.place);
        }
        if (!open) {
            int k = names.indexOf(name.text);
            return plan -> plan[k];
        }
        int sign = any().place;
        List<Exp> list = new ArrayList<>();
        list.add(exp(depth + 1));
        while (sees(",")) {
            any();
            list.add(exp(depth + 1));
        }
        expect("]");
        boolean two = table != null && table.rows.size() > 1;
        if (list.size() != (two ? 2 : 1)) {
            throw new Fault(6, sign);
        }
        return plan -> {
            int[] e = all(list, plan);
            int last = e[e.length - 1];
            if (row != null) {
                if (last < 0 || last >= row[1]) {
                    throw new Fails();
                }
                return plan[row[0] + last];
            }
            int r = two ? e[0] : 0;
            if (r < 0 || r >= table.rows.size() || last < 0 || last >= table.rows.get(0).length) {
                throw new Fails();
            }
            return table.rows.get(r)[last];
        };
    }

    // ---- questions

    /** What a plan comes to. */
    static final class Verdict {
        int[] plan;
        int failedAt = -1;
        int broken;
        int[] levels = new int[3];

        boolean isAllowed() {
            return failedAt < 0 && broken == 0;
        }
    }

    long space() {
        long space = 1;
        for (int[] range : ranges) {
            space *= range[1] - range[0] + 1;
        }
        return space;
    }

    Verdict verdict(int[] plan) {
        Verdict v = new Verdict();
        v.plan = plan;
        for (int k = 0; k < items.size(); k++) {
            Item item = items.get(k);
            try {
                int add = item.kind == 2 ? item.exp.of(plan) : item.cond.of(plan) ? 0 : item.weight;
                boolean untrue = item.kind == 0 && !item.cond.of(plan);
                if (item.on) {
                    v.levels[item.level] += add;
                    v.broken |= untrue ? 1 << k : 0;
                }
            } catch (Fails f) {
                v.failedAt = k;
                v.broken = 0;
                v.levels = new int[3];
                return v;
            }
        }
        return v;
    }

    /** All plans that fit the pins (null: nothing), the first ones first. */
    List<Verdict> verdicts(Integer[] pins) {
        List<Verdict> all = new ArrayList<>();
        gather(new int[names.size()], 0, pins, all);
        return all;
    }

    private void gather(int[] plan, int k, Integer[] pins, List<Verdict> all) {
        if (k == plan.length) {
            all.add(verdict(plan.clone()));
            return;
        }
        for (int v = ranges.get(k)[0]; v <= ranges.get(k)[1]; v++) {
            if (pins[k] == null || pins[k] == v) {
                plan[k] = v;
                gather(plan, k + 1, pins, all);
            }
        }
    }

    /** By going through all sets, fewest rules first, then by their numbers. */
    int core(List<Verdict> verdicts) {
        int on = 0;
        for (int k = 0; k < items.size(); k++) {
            on |= items.get(k).on && items.get(k).kind == 0 ? 1 << k : 0;
        }
        List<Integer> broken = new ArrayList<>();
        for (Verdict v : verdicts) {
            if (v.isAllowed()) {
                return 0;
            }
            if (v.failedAt < 0) {
                broken.add(v.broken);
            }
        }
        for (int size = 0; size <= 16 && !broken.isEmpty(); size++) {
            int set = firstSet(on, size, 0, 0, broken);
            if (set >= 0) {
                return set;
            }
        }
        return 0;
    }

    private static int firstSet(int on, int size, int from, int set, List<Integer> broken) {
        if (size == 0) {
            return broken.stream().allMatch(b -> (b & set) != 0) ? set : -1;
        }
        for (int k = from; k < 16; k++) {
            if ((on >> k & 1) != 0) {
                int found = firstSet(on, size - 1, k + 1, set | 1 << k, broken);
                if (found >= 0) {
                    return found;
                }
            }
        }
        return -1;
    }
}
