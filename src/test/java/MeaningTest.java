/** What exps and conds mean, by costs and rules that are judged (terms of part 2; promises 12, 13). */
public final class MeaningTest {
    private static final Checks CHECKS = new Checks();
    private static final int FAILS = 9999999;

    public static void main(String[] args) {
        reckoning();
        bounds();
        places();
        lists();
        joining();
        asking();
        specials();
        fitting();
        fullTables();
        longTexts();
        CHECKS.end();
    }

    /** The row q has the values 2, 0, 3, 1 and x has -7. */
    private static SolverHouse house(String item) {
        SolverHouse house = CHECKS.house("var q[4] 0..3; var x -7..-7; table t = 5, 6, 7; table u = 1, 2 | 3, 4 | 5, 6;"
            + item);
        house.plan(0, 0, 2);
        house.plan(0, 2, 3);
        house.plan(0, 3, 1);
        return house;
    }

    private static void cost(String exp, int want) {
        SolverHouse house = house("cost 1: " + exp + ";");
        int answer = house.judge(0);
        CHECKS.due("judge of " + exp, answer, want == FAILS ? 2 : 1);
        CHECKS.due(exp, house.score(1), want == FAILS ? 0 : want);
        CHECKS.due("fault of " + exp, house.score(3), want == FAILS ? 0 : -2);
    }

    private static void rule(String cond, boolean want) {
        SolverHouse house = house("rule " + cond + ";");
        CHECKS.due(cond, house.judge(0), want ? 1 : 0);
    }

    private static void ruleFails(String cond) {
        SolverHouse house = house("rule 1 = 2; rule " + cond + ";");
        CHECKS.due(cond, house.judge(0), 2);
        CHECKS.due("first of " + cond, house.score(3), 1);
        CHECKS.due("broken of " + cond, house.score(4), 0);
    }

    private static void reckoning() {
        cost("x", -7);
        cost("1 + 2 * 3", 7);
        cost("(1 + 2) * 3", 9);
        cost("10 - 3 - 2", 5);
        cost("100 / 10 / 5", 2);
        cost("7 / 2", 3);
        cost("x / 2", -3);
        cost("7 / -2", -3);
        cost("x / -2", 3);
        cost("7 mod 3", 1);
        cost("x mod 3", -1);
        cost("7 mod -3", 1);
        cost("x mod -3", -1);
        cost("2 * 7 mod 4", 2);
        cost("17 mod 7 * 2", 6);
        cost("- 2 * 3", -6);
        cost("-2 - -3", 1);
        cost("2 - - - 3", -1);
        cost("-(1 + 2)", -3);
        cost("abs(x)", 7);
        cost("abs(7)", 7);
        cost("0007", 7);
        cost("0 / 5", 0);
    }

    private static void bounds() {
        cost("1000 * 1000", 1000000);
        cost("-1000 * 1000", -1000000);
        cost("1000 * 1000 + 1", FAILS);
        cost("1000 * 1000 + 1 - 1", FAILS);
        cost("1000 * 1000 + (1 - 1)", 1000000);
        cost("-1000 * 1000 - 1", FAILS);
        cost("9999 * 9999", FAILS);
        cost("1000 * 1000 * (1000 * 1000)", FAILS);
        cost("(1000 * 1000 - 1) / (1 - 1)", FAILS);
        cost("sum(1000 * 1000, 1)", FAILS);
        cost("sum(1000 * 1000, -1)", 999999);
        cost("sum(9999 * 100, 200, - 200)", FAILS);
        cost("sum(9999 * 100, - 200, 200)", 999900);
        cost("sum(9999 * 100, 100)", 1000000);
        cost("sum(9999 * 100, 100, -1, 1)", 1000000);
        cost("sum(9999 * 100, 101, -1)", FAILS);
        cost("sum(-9999 * 100, -200, 200)", FAILS);
        cost("sum(-9999 * 100, 200, -200)", -999900);
        cost("sum(-9999 * 100, -100)", -1000000);
        cost("sum(q, 1000 * 1000 - 6)", 1000000);
        cost("sum(1000 * 1000 - 6, q)", 1000000);
        cost("sum(1000 * 1000 - 5, q, -9)", FAILS);
        cost("min(1000 * 1000, 1000 * 1000)", 1000000);
        cost("max(-1000 * 1000, -1000 * 1000)", -1000000);
        cost("-(-1000 * 1000)", 1000000);
        cost("abs(-1000 * 1000)", 1000000);
        cost("-1000 * 1000 / -1", 1000000);
        cost("1 / 0", FAILS);
        cost("0 / 0", FAILS);
        cost("1 mod 0", FAILS);
        cost("1 / (x + 7)", FAILS);
    }

    private static void places() {
        cost("q[0]", 2);
        cost("q[3]", 1);
        cost("q[q[q[0]]]", 1);
        cost("q[4]", FAILS);
        cost("q[-1]", FAILS);
        cost("q[x]", FAILS);
        cost("t[0] * 100 + t[1] * 10 + t[2]", 567);
        cost("t[3]", FAILS);
        cost("t[-1]", FAILS);
        cost("u[0, 1]", 2);
        cost("u[1, 0]", 3);
        cost("u[2, 1]", 6);
        cost("u[3, 0]", FAILS);
        cost("u[-1, 0]", FAILS);
        cost("u[0, 2]", FAILS);
        cost("u[1, -1]", FAILS);
        cost("u[q[3], q[1]]", 3);
        cost("u[1 / 0, 0]", FAILS);
    }

    private static void lists() {
        cost("min(3, x, 2)", -7);
        cost("max(3, x, 2)", 3);
        cost("sum(3, x, 2)", -2);
        cost("min(q)", 0);
        cost("max(q)", 3);
        cost("sum(q)", 6);
        cost("sum(1, q, q, 1)", 14);
        cost("min(4)", 4);
        cost("count(q | 3)", 1);
        cost("count(q, q, 3, 4 | 3)", 3);
        cost("count(q | 9)", 0);
        cost("count(1, 2, 1 | 0 + 1)", 2);
        cost("count(1, 1 / 0 | 1)", FAILS);
        cost("count(1 | 1 / 0)", FAILS);
        cost("max(1, 1 / 0)", FAILS);
    }

    private static void joining() {
        rule("1 = 1", true);
        rule("1 = 2", false);
        rule("1 != 2", true);
        rule("1 < 1", false);
        rule("1 <= 1", true);
        rule("2 > 1", true);
        rule("1 > 1", false);
        rule("1 >= 2", false);
        rule("not 1 = 2", true);
        rule("not not 1 = 2", false);
        rule("not 1 = 2 and 1 = 2", false);
        rule("not {1 = 2 and 1 = 2}", true);
        rule("1 = 1 or 1 = 1 and 1 = 2", true);
        rule("{1 = 1 or 1 = 1} and 1 = 2", false);
        rule("1 = 2 -> 1 = 2", true);
        rule("1 = 1 -> 1 = 2", false);
        rule("1 = 1 -> 1 = 1", true);
        rule("1 = 2 -> 1 = 2 -> 1 = 2", true);
        rule("{1 = 2 -> 1 = 2} -> 1 = 2", false);
        rule("1 = 1 -> 1 = 2 -> 1 = 2", true);
        rule("1 = 1 -> 1 = 1 -> 1 = 2", false);
        rule("1 = 1 -> 1 = 1 -> 1 = 1", true);
        rule("1 = 2 or 1 = 2 -> 1 = 2", true);
        rule("1 = 2 or 1 = 2 or 1 = 1", true);
        rule("1 = 1 and 1 = 1 and 1 = 2", false);
    }

    /** The second one is asked only if the first does not settle it. */
    private static void asking() {
        rule("1 = 1 or 1 / 0 = 1", true);
        rule("1 = 1 or 1 / 0 = 1 or 1 / 0 = 1", true);
        rule("1 = 2 and 1 / 0 = 1", false);
        rule("1 = 2 and 1 / 0 = 1 and 1 / 0 = 1", false);
        rule("1 = 2 -> 1 / 0 = 1", true);
        rule("1 = 2 -> 1 / 0 = 1 -> 1 / 0 = 1", true);
        rule("1 = 1 -> 1 = 2 -> 1 / 0 = 1", true);
        rule("1 = 2 and 1 / 0 = 1 or 1 = 1", true);
        ruleFails("1 = 2 or 1 / 0 = 1");
        ruleFails("1 = 1 and 1 / 0 = 1");
        ruleFails("1 = 1 -> 1 / 0 = 1");
        ruleFails("1 / 0 = 1 or 1 = 1");
        ruleFails("1 = 1 -> 1 = 1 -> 1 / 0 = 1");
        ruleFails("not 1 / 0 = 1");
        ruleFails("distinct(1, 1, 1 / 0)");
        ruleFails("ordered(2, 1, 1 / 0)");
        ruleFails("circuit(9, 1 / 0)");
        ruleFails("in t (1, 2, 1 / 0)");
        ruleFails("fits(1, 0, 1 / 0 | 0)");
        ruleFails("fits(1, 1, 2 | 1 / 0)");
    }

    private static void specials() {
        rule("distinct(q)", true);
        rule("distinct(q, 4)", true);
        rule("distinct(q, 3)", false);
        rule("distinct(1, 2, 1)", false);
        rule("distinct(1)", true);
        rule("ordered(1, 1, 2)", true);
        rule("ordered(1, 2, 1)", false);
        rule("ordered(q)", false);
        rule("ordered(x)", true);
        rule("circuit(q)", true);
        rule("circuit(0)", true);
        rule("circuit(1)", false);
        rule("circuit(1, 0)", true);
        rule("circuit(0, 1)", false);
        rule("circuit(1, 0, 2)", false);
        rule("circuit(1, 2, 1)", false);
        rule("circuit(1, 2, 3)", false);
        rule("circuit(1, x, 0)", false);
        rule("circuit(2, 0, 1)", true);
        rule("in t (5, 6, 7)", true);
        rule("in t (5, 6, 8)", false);
        rule("in u (3, 4)", true);
        rule("in u (5, 6)", true);
        rule("in u (2, 3)", false);
        rule("in u (q[3], q[0])", true);
    }

    private static void fitting() {
        rule("fits(0, 2, 1 | 1, 2, 1 | 2)", true);
        rule("fits(0, 2, 1 | 1, 2, 1 | 1)", false);
        rule("fits(0, 1, 1 | 1, 2, 1 | 1)", true);
        rule("fits(5, 3, 1 | 0, 9, 1 | 1)", false);
        rule("fits(0, 0, 9 | 1)", true);
        rule("fits(0, -5, 9 | -2, 1, 1 | 1)", true);
        rule("fits(0, 1, 0 | -1)", false);
        rule("fits(0, 0, 0 | -1)", true);
        rule("fits(0, 9, 3 | 2, 3, -2 | 1)", false);
        rule("fits(2, 3, 3 | 0, 9, -2 | 1)", true);
        rule("fits(0, 9, 2 | 2, 3, -2 | 1)", false);
        rule("fits(2, 3, 2 | 2, 3, -1 | 1)", true);
        rule("fits(2, 3, 2 | 2, 2, -1 | 1)", false);
        rule("fits(2, 3, 2 | 3, 2, -1 | 1)", false);
        rule("fits(-3, 2, 1 | -2, 1, 1 | 1)", false);
        rule("fits(0, 1000 * 1000, 1 | 999 * 1000, 1, 1 | 1)", false);
        rule("fits(0, 999 * 1000, 1 | 999 * 1000, 1000 * 1000, 1 | 1)", true);
        rule("fits(0, 1, 1000 * 1000 | 0, 1, 1000 * 1000 | 1000 * 1000)", false);
    }

    private static void fullTables() {
        StringBuilder text = new StringBuilder("var x 0..30; ");
        for (char t = 'a'; t <= 'h'; t++) {
            int size = t == 'b' || t > 'f' ? 24 : 2;
            text.append("table ").append(t).append(" = ");
            for (int i = 0; i < size; i++) {
                text.append(i).append(i + 1 == size ? ";" : i % 2 == 0 ? "," : "|");
            }
        }
        SolverHouse house = CHECKS.house(text + "rule in h (x, x + 1) and in b (x, x + 1); cost 0: h[11, 1];");
        CHECKS.due("rows of a full table", house.allowed(0), 12);
        house.plan(0, 0, 22);
        CHECKS.due("its last row", house.judge(0), 1);
        CHECKS.due("its last number", house.score(0), 23);
    }

    /** As many numbers and conds as 400 tokens can hold. */
    private static void longTexts() {
        StringBuilder sum = new StringBuilder("var q[8] 1..1; cost 0: sum(q");
        StringBuilder chain = new StringBuilder("rule 1 = 1");
        StringBuilder nots = new StringBuilder("cost 0: -----------1");
        for (int n = 1; n < 192; n++) {
            sum.append(",q");
        }
        for (int n = 1; n < 98; n++) {
            chain.append(" -> 1 = 1");
        }
        for (int n = 1; n < 30; n++) {
            nots.append("+-----------1");
        }
        SolverHouse house = CHECKS.house(sum + ");");
        CHECKS.due("judge of a long sum", house.judge(0), 1);
        CHECKS.due("a long sum", house.score(0), 1536);
        CHECKS.due("a long chain", CHECKS.house(chain + ";").judge(0), 1);
        CHECKS.due("a long chain to what is not true", CHECKS.house(chain + " -> 1 = 2;").judge(0), 0);
        house = CHECKS.house(nots + ";");
        CHECKS.due("judge of many -", house.judge(0), 1);
        CHECKS.due("many -", house.score(0), -30);
    }
}
