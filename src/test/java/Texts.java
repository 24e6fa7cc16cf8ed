import java.util.ArrayList;
import java.util.Collections;
import java.util.List;

/** Texts by chance, sound and faulty ones; the same ones from the same seed. */
final class Texts {
    private long seed;
    private final List<String> out = new ArrayList<>();
    private final List<String> plain = new ArrayList<>();
    private final List<String> rows = new ArrayList<>();
    private final List<String> tables = new ArrayList<>();
    private final List<Integer> widths = new ArrayList<>();
    private final List<Integer> heights = new ArrayList<>();

    Texts(long seed) {
        this.seed = seed;
    }

    int pick(int n) {
        seed = seed * 6364136223846793005L + 1442695040888963407L;
        return (int) ((seed >>> 33) % n);
    }

    boolean chance(int percent) {
        return pick(100) < percent;
    }

    private void clear() {
        out.clear();
        plain.clear();
        rows.clear();
        tables.clear();
        widths.clear();
        heights.clear();
    }

    String text() {
        clear();
        variables();
        for (int n = pick(3); n > 0; n--) {
            table();
        }
        // Half of the texts have few rules, so that many plans are allowed and scores tell them apart.
        int kinds = chance(50) ? 4 : 2;
        for (int n = 1 + pick(6); n > 0; n--) {
            item(chance(15) ? 4 : kinds);
        }
        if (chance(40)) {
            mutate();
        }
        String text = join();
        return chance(8) ? spoil(text) : text;
    }

    /** A text about as full as texts may be. */
    String crowdedText() {
        clear();
        int limit = pick(5);
        int variables = limit == 0 ? 11 + pick(3) : pick(6);
        for (int told = 0; told < variables;) {
            int size = chance(40) ? 1 + pick(5) : 0;
            say("var", "v" + told);
            if (size > 0) {
                say("[", Integer.toString(size), "]");
            }
            (size > 0 ? rows : plain).add("v" + told);
            say("0", "..", Integer.toString(pick(2)), ";");
            told += Math.max(1, size);
        }
        crowdedTables(limit == 1 ? 7 + pick(3) : pick(3), limit == 2 ? 23 + pick(3) : 1 + pick(3));
        for (int n = limit == 3 ? 15 + pick(3) : pick(4); n > 0; n--) {
            item(4);
        }
        if (limit == 4) {
            say("cost", "1", ":", "1");
            for (int most = 398 + pick(4); out.size() < most;) {
                say(pick(9) == 0 ? "-" : "+", "1");
            }
            say(";");
        }
        if (chance(20)) {
            mutate();
        }
        return join();
    }

    private void crowdedTables(int count, int numbers) {
        for (int t = 0; t < count; t++) {
            say("table", "t" + t, "=");
            int width = 1 + pick(numbers);
            for (int n = 1; n <= numbers; n++) {
                integer(pick(9) - 4);
                say(n == numbers ? ";" : n % width == 0 ? "|" : ",");
            }
        }
    }

    private void say(String... words) {
        for (String word : words) {
            out.add(word);
        }
    }

    private void integer(int n) {
        if (n < 0) {
            say("-");
        }
        say(Integer.toString(Math.abs(n)));
    }

    private void variables() {
        int budget = 400;
        for (int n = 1 + pick(4); n > 0; n--) {
            int size = chance(35) ? 1 + pick(4) : 0;
            int wide = 1 + pick(5);
            int plans = (int) Math.pow(wide, Math.max(size, 1));
            if (plans > budget && !chance(3)) {
                continue;
            }
            budget = Math.max(1, budget / plans);
            String name = "abcdefgh".substring(n, n + 1) + (size > 0 ? "Row" : "");
            say("var", name);
            if (size > 0) {
                say("[", Integer.toString(size), "]");
                rows.add(name);
            } else {
                plain.add(name);
            }
            int least = chance(1) ? -999 - pick(3) : chance(1) ? 999 + pick(3) : pick(7) - 3;
            integer(least);
            say("..");
            integer(chance(1) ? 1000 : least + wide - 1);
            say(";");
        }
    }

    private void table() {
        int height = 1 + pick(3);
        int width = 1 + pick(4);
        String name = "t" + tables.size();
        say("table", name, "=");
        for (int r = 0; r < height; r++) {
            for (int i = 0; i < width; i++) {
                integer(pick(8) - 2);
                say(i + 1 < width ? "," : r + 1 < height ? "|" : ";");
            }
        }
        tables.add(name);
        widths.add(width);
        heights.add(height);
    }

    /** Of the first two kinds are softs and costs, of the others rules. */
    private void item(int kinds) {
        switch (pick(kinds)) {
            case 0:
                say("soft", Integer.toString(pick(3)), Integer.toString(1 + pick(9)), ":");
                cond(0);
                break;
            case 1:
                say("cost", Integer.toString(pick(3)), ":");
                exp(0);
                break;
            default:
                say("rule");
                if (chance(40)) {
                    say("r" + pick(90), ":");
                }
                cond(0);
                break;
        }
        say(";");
    }

    private void cond(int depth) {
        fact(depth);
        for (int n = chance(50) ? pick(3) : 0; n > 0; n--) {
            say(pick(3) == 0 ? "and" : pick(2) == 0 ? "or" : "->");
            fact(depth);
        }
    }

    private void fact(int depth) {
        int which = depth > 3 ? 9 : pick(14);
        switch (which) {
            case 0:
                say("not");
                fact(depth + 1);
                break;
            case 1:
                say("{");
                cond(depth + 1);
                say("}");
                break;
            case 2: case 3: case 4:
                say(which == 2 ? "distinct" : which == 3 ? "ordered" : "circuit");
                list(depth + 1, 1 + pick(3));
                break;
            case 5:
                fits(depth + 1);
                break;
            case 6:
                if (tables.isEmpty()) {
                    comparison(depth);
                } else {
                    int t = pick(tables.size());
                    say("in", tables.get(t), "(");
                    for (int i = 0; i < widths.get(t); i++) {
                        exp(depth + 2);
                        say(i + 1 < widths.get(t) ? "," : ")");
                    }
                }
                break;
            default:
                comparison(depth);
        }
    }

    private void comparison(int depth) {
        exp(depth);
        say(new String[] {"=", "!=", "<", "<=", ">", ">="}[pick(6)]);
        exp(depth);
    }

    private void fits(int depth) {
        say("fits", "(");
        for (int n = 1 + pick(3); n > 0; n--) {
            exp(depth + 1);
            say(",");
            exp(depth + 1);
            say(",");
            exp(depth + 1);
            say("|");
        }
        exp(depth + 1);
        say(")");
    }

    private void list(int depth, int size) {
        say("(");
        elements(depth, size);
        say(")");
    }

    private void elements(int depth, int size) {
        for (int i = 0; i < size; i++) {
            if (!rows.isEmpty() && chance(40)) {
                say(rows.get(pick(rows.size())));
            } else {
                exp(depth + 1);
            }
            if (i + 1 < size) {
                say(",");
            }
        }
    }

    private void exp(int depth) {
        unit(depth);
        for (int n = depth < 3 && chance(40) ? 1 + pick(2) : 0; n > 0; n--) {
            say(new String[] {"+", "-", "*", "/", "mod", "+", "-"}[pick(7)]);
            unit(depth);
        }
    }

    private void unit(int depth) {
        int which = pick(depth > 3 ? 8 : chance(15) ? 15 : 14);
        if (which < 4 && !plain.isEmpty()) {
            say(plain.get(pick(plain.size())));
        } else if (which < 7) {
            say(Integer.toString(chance(3) ? 900 + pick(9100) : pick(6)));
        } else if (which == 7 && !rows.isEmpty()) {
            say(rows.get(pick(rows.size())), "[");
            unit(depth + 2);
            say("]");
        } else if (which == 8) {
            say("-");
            unit(depth + 1);
        } else if (which == 9) {
            say("(");
            exp(depth + 1);
            say(")");
        } else if (which == 10) {
            say(new String[] {"min", "max", "sum"}[pick(3)]);
            list(depth + 1, 1 + pick(3));
        } else if (which == 11) {
            say("abs", "(");
            exp(depth + 1);
            say(")");
        } else if (which == 12) {
            say("count", "(");
            elements(depth + 1, 1 + pick(3));
            say("|");
            exp(depth + 1);
            say(")");
        } else if (which == 13 && !tables.isEmpty()) {
            int t = pick(tables.size());
            say(tables.get(t), "[");
            if (heights.get(t) > 1) {
                unit(depth + 2);
                say(",");
            }
            unit(depth + 2);
            say("]");
        } else if (which == 14) {
            // Near what exps may be, so that sums go beyond it on their way.
            say("sum", "(", "9999", "*", "100", ",");
            integer(chance(50) ? 100 : -100);
            say(",");
            exp(depth + 1);
            say(",");
            exp(depth + 1);
            say(")");
        } else {
            say(Integer.toString(pick(4)));
        }
    }

    private String anyToken() {
        String[] some = ("var table rule soft cost and or not mod min max abs count sum distinct ordered"
            + " circuit fits in + - * / ( ) [ ] { } , ; : = != < <= > >= .. -> | a b c d aRow bRow t0 t1 r1 0 1 2 9"
            + " 100 1000 99999 abcdefgh abcdefghi ! . $").split(" ");
        return some[pick(some.length)];
    }

    private void mutate() {
        if (out.isEmpty()) {
            return;
        }
        int at = pick(out.size());
        switch (pick(7)) {
            case 0: out.remove(at); break;
            case 1: out.add(at, anyToken()); break;
            case 2: out.set(at, anyToken()); break;
            case 3: out.set(at, out.get(pick(out.size()))); break;
            case 4: Collections.swap(out, at, pick(out.size())); break;
            case 5:
                while (out.size() > at) {
                    out.remove(at);
                }
                break;
            default:
                nest(at);
                break;
        }
    }

    /** Puts about as many signs before a token as may stand around it. */
    private void nest(int at) {
        String sign = new String[] {"-", "(", "{", "not"}[pick(4)];
        for (int n = 10 + pick(5); n > 0; n--) {
            out.add(at, sign);
        }
    }

    private String join() {
        StringBuilder text = new StringBuilder();
        boolean wide = chance(50);
        for (String word : out) {
            boolean tight = text.length() > 0 && Character.isLetterOrDigit(text.charAt(text.length() - 1))
                && Character.isLetterOrDigit(word.charAt(0));
            if (wide || tight || chance(10)) {
                text.append(chance(4) ? " # var\n" : chance(10) ? "\t\r\n " : " ");
            }
            text.append(word);
        }
        return text.length() > 2900 ? text.substring(0, 2900) : text.toString();
    }

    private String spoil(String text) {
        StringBuilder spoiled = new StringBuilder(text);
        int at = pick(Math.max(1, text.length()));
        if (at < text.length()) {
            spoiled.setCharAt(at, (char) pick(256));
        }
        return spoiled.toString();
    }
}
