/** The limits that parts 2 and 3 of the document name: at each, one below it and one above it. */
public final class MeaningLimitTest {
    private static final Checks CHECKS = new Checks();

    public static void main(String[] args) {
        numbering();
        space();
        sums();
        products();
        divisions();
        signs();
        lists();
        placesOfRows();
        placesOfTables();
        askedOnly();
        counts();
        distinct();
        ordered();
        circuits();
        fitting();
        inTables();
        failing();
        levels();
        bestOnes();
        pinned();
        fronts();
        cores();
        nearest();
        settled();
        CHECKS.end();
    }

    private static void due(String what, long got, long want) {
        CHECKS.due(what, got, want);
    }

    private static final String HEAD = "var q[8] 5..5; var x -7..-7; table one = 3; table row = 10, 11, 12, 13;"
        + "table rows = 1, 2 | 3, 4 | 5, 6; table col = 7 | 8 | 9;";

    /** The exp's value, which is a cost of level 2 of the only plan. */
    private static void gives(String exp, int want) {
        SolverHouse house = CHECKS.house(HEAD + "cost 2: " + exp + ";");
        due("judge of " + exp, house.judge(0), 1);
        due(exp, house.score(2), want);
    }

    private static void fails(String exp) {
        SolverHouse house = CHECKS.house(HEAD + "cost 2: " + exp + ";");
        due("judge of failing " + exp, house.judge(0), 2);
        due("fails of failing " + exp, house.fails(0), 1);
        due("level of failing " + exp, house.score(2), 0);
    }

    private static void holds(String cond) {
        due(cond, CHECKS.house(HEAD + "rule " + cond + ";").judge(0), 1);
    }

    private static void broken(String cond) {
        due("broken " + cond, CHECKS.house(HEAD + "rule " + cond + ";").judge(0), 0);
    }

    private static void condFails(String cond) {
        due("failing " + cond, CHECKS.house(HEAD + "rule " + cond + ";").judge(0), 2);
    }

    // "VARIABLES are numbered as they are told, those of a row one behind the other"

    private static void numbering() {
        SolverHouse house = CHECKS.house("var a 1..1; var b[3] 2..2; table t = 0; var c 3..3; rule r: 1 = 1; var d[7] 4..4;");
        int[] least = {1, 2, 2, 2, 3, 4, 4, 4, 4, 4, 4, 4};
        for (int k = 0; k < 12; k++) {
            due("least of " + k, house.told(0, 5, k), least[k]);
        }
        due("no 13th", house.told(0, 5, 12), -1);
    }

    // "a problem with more than 20000 is not taken (LARGE)"

    private static void space() {
        int large = -3;
        String[] texts = {
            "", "var x 0..0;", "var x 0..1;", "var x -999..999;", "var x 1..198; var y 1..101;", "var x 1..100; var y 1..200;",
            "var q[2] 1..100; var y 0..1;", "var x 1..59; var y 1..339;", "var q[2] 1..141;", "var q[2] 1..142;",
            "var q[8] 0..2; var r[2] 0..0;", "var q[8] 0..2; var x 0..2;", "var q[8] 0..2; var x 0..3;",
            "var q[8] 0..1; var r[4] 0..1;", "var q[8] 0..1; var r[4] 0..2;",
            // 2^32 and 2^64 plans, which are no plans at all in fewer bits.
            "var q[8] 0..15;", "var q[8] 0..15; var r[4] 0..255;", "var q[8] -999..999; var r[4] -999..999;",
            "var q[8] -999..999; var r[4] 0..0;"
        };
        int[] want = {1, 1, 2, 1999, 19998, 20000, 20000, large, 19881, large, 6561, 19683, large, 4096, large, large, large,
            large, large};
        for (int i = 0; i < texts.length; i++) {
            SolverHouse house = new SolverHouse();
            due("space of " + texts[i], Checks.read(house, 3, texts[i]), want[i]);
            due("told of " + texts[i], house.told(3, 3, 0), want[i] == large ? -2 : want[i]);
            due("left of " + texts[i], house.told(3, 4, 0), want[i] == large ? -2 : want[i]);
            due("allowed of " + texts[i], house.allowed(3), want[i] == large ? -2 : want[i]);
            due("place of " + texts[i], house.place(), -2);
        }
    }

    // "An exp FAILS .. beyond -1000000 .. 1000000 (each operation)"

    private static void sums() {
        gives("1000 * 1000 - 1 + 1", 1000000);
        gives("999 * 1000 + 1000", 1000000);
        fails("999 * 1000 + 1001");
        fails("1000 * 1000 + 1");
        fails("1 + 1000 * 1000");
        fails("1000 * 1000 + 1 - 1");
        gives("1000 * 1000 - 1", 999999);
        gives("-1000 * 1000 + 1 - 1", -1000000);
        gives("-999 * 1000 - 1000", -1000000);
        fails("-999 * 1000 - 1001");
        fails("-1000 * 1000 - 1");
        fails("-1000 * 1000 + -1");
        fails("1000 * 1000 - -1");
        gives("1000 * 1000 - 1000 * 1000", 0);
        fails("1000 * 1000 + 1000 * 1000 - 1000 * 1000");
        gives("1000 * 1000 + (1000 * 1000 - 1000 * 1000)", 1000000);
        fails("-1000 * 1000 - 1000 * 1000");
        gives("-1000 * 1000 + 1000 * 1000", 0);
    }

    private static void products() {
        gives("1001 * 999", 999999);
        gives("125 * 8000", 1000000);
        fails("101 * 9901");
        gives("-125 * 8000", -1000000);
        gives("125 * -8000", -1000000);
        fails("-101 * 9901");
        fails("101 * -9901");
        gives("-1000 * -1000", 1000000);
        fails("-101 * -9901");
        fails("9999 * 9999");
        // 2^32, which is 0 in 32 bits, and others that wrap around.
        fails("4096 * 16 * (4096 * 16)");
        fails("4096 * 16 * (4096 * 16) * 0");
        fails("1000 * 1000 * (1000 * 1000)");
        fails("1000 * 1000 * (-1000 * 1000)");
        gives("1000 * 1000 * 1", 1000000);
        gives("1000 * 1000 * 0", 0);
        gives("1000 * 1000 * -1", -1000000);
        gives("1000 * 1000 * (1 - 1) * 9999", 0);
    }

    // "/ is cut towards 0, mod its rest"; "by 0"

    private static void divisions() {
        int[] tops = {-8, -7, -1, 0, 1, 7, 8};
        int[] bottoms = {-8, -3, -1, 1, 3, 8};
        for (int a : tops) {
            for (int b : bottoms) {
                gives("(" + a + ") / (" + b + ")", a / b);
                gives("(" + a + ") mod (" + b + ")", a % b);
            }
            fails("(" + a + ") / 0");
            fails("(" + a + ") mod 0");
            fails("(" + a + ") / (x + 7)");
        }
        gives("-1000 * 1000 / -1", 1000000);
        gives("1000 * 1000 / -1", -1000000);
        gives("-1000 * 1000 mod -1", 0);
        gives("1000 * 1000 mod 9999", 1000000 % 9999);
        gives("1 / (1000 * 1000)", 0);
        gives("-1 mod (1000 * 1000)", -1);
        fails("0 * (1 / 0)");
        fails("1 / 0 - 1 / 0");
    }

    private static void signs() {
        gives("-(1000 * 1000)", -1000000);
        gives("-(-1000 * 1000)", 1000000);
        gives("- -(1000 * 1000)", 1000000);
        gives("abs(1000 * 1000)", 1000000);
        gives("abs(-1000 * 1000)", 1000000);
        gives("abs(0)", 0);
        gives("-0", 0);
        gives("abs(x)", 7);
        gives("-x", 7);
        gives("9999", 9999);
    }

    private static void lists() {
        gives("sum(1000 * 1000)", 1000000);
        gives("sum(1000 * 1000, -1, 1)", 1000000);
        gives("sum(1000 * 1000, 0)", 1000000);
        fails("sum(1000 * 1000, 1)");
        fails("sum(1000 * 1000, 1, -1)");
        fails("sum(1, 1000 * 1000, -1)");
        gives("sum(-1, 1000 * 1000, 1)", 1000000);
        gives("sum(-1000 * 1000, 0)", -1000000);
        fails("sum(-1000 * 1000, -1)");
        fails("sum(-1000 * 1000, -1, 1)");
        gives("sum(1000 * 1000 - 40, q)", 1000000);
        fails("sum(1000 * 1000 - 39, q)");
        fails("sum(1000 * 1000 - 39, q, -1)");
        gives("sum(q)", 40);
        gives("min(1000 * 1000, -1000 * 1000)", -1000000);
        gives("max(1000 * 1000, -1000 * 1000)", 1000000);
        gives("max(-1000 * 1000)", -1000000);
        gives("min(1000 * 1000)", 1000000);
        gives("min(x, x + 1, x - 1)", -8);
        gives("max(x, x + 1, x - 1)", -6);
        gives("min(q, 4)", 4);
        gives("max(q, 6)", 6);
        fails("min(1, 2, 1 / 0)");
        fails("sum(1 / 0, 1)");
    }

    // "FAILS where there is nothing at that place"; "e from 0"

    private static void placesOfRows() {
        SolverHouse house = CHECKS.house("var q[3] 0..9; var i -2..4; cost 0: q[i];");
        house.plan(0, 0, 7);
        house.plan(0, 1, 8);
        house.plan(0, 2, 9);
        for (int i = -2; i <= 4; i++) {
            house.plan(0, 3, i);
            boolean there = i >= 0 && i <= 2;
            due("judge of q[" + i + "]", house.judge(0), there ? 1 : 2);
            due("q[" + i + "]", house.score(0), there ? 7 + i : 0);
        }
        gives("q[0]", 5);
        gives("q[7]", 5);
        fails("q[8]");
        fails("q[-1]");
        fails("q[x]");
        fails("q[1000 * 1000]");
        fails("q[-1000 * 1000]");
        house = CHECKS.house("var s[1] 4..4; var y 6..6; cost 0: s[0];");
        due("a row of one", house.best(0), 1);
        due("its number", house.score(0), 4);
        due("nothing behind a row of one", CHECKS.house("var s[1] 4..4; var y 6..6; cost 0: s[1];").judge(0), 2);
        due("nothing before a row", CHECKS.house("var y 6..6; var s[1] 4..4; cost 0: s[-1];").judge(0), 2);
    }

    private static void placesOfTables() {
        gives("one[0]", 3);
        fails("one[1]");
        fails("one[-1]");
        for (int i = 0; i < 4; i++) {
            gives("row[" + i + "]", 10 + i);
        }
        fails("row[4]");
        fails("row[-1]");
        fails("row[9999]");
        for (int r = -1; r <= 3; r++) {
            for (int i = -1; i <= 2; i++) {
                String exp = "rows[" + r + ", " + i + "]";
                if (r >= 0 && r < 3 && i >= 0 && i < 2) {
                    gives(exp, 2 * r + i + 1);
                } else {
                    fails(exp);
                }
            }
            if (r >= 0 && r < 3) {
                gives("col[" + r + ", 0]", 7 + r);
            }
            fails("col[" + r + ", 1]");
            fails("col[" + r + ", -1]");
        }
        fails("col[3, 0]");
        fails("col[-1, 0]");
        StringBuilder full = new StringBuilder("table t = -9999");
        for (int i = 1; i < 24; i++) {
            full.append(i % 3 == 0 ? "|" : ",").append(i == 23 ? 9999 : i);
        }
        String[] exps = {"t[0, 0]", "t[7, 2]", "t[7, 1]", "t[8, 0]", "t[7, 3]"};
        int[] want = {-9999, 9999, 22, 0, 0};
        for (int i = 0; i < exps.length; i++) {
            SolverHouse house = CHECKS.house(full + "; cost 0: " + exps[i] + ";");
            due("judge of a full table's " + exps[i], house.judge(0), i < 3 ? 1 : 2);
            due("a full table's " + exps[i], house.score(0), want[i]);
        }
    }

    // "or, and ask the second one only if the first does not settle it, likewise ->; the others ask all, from the left"

    private static void askedOnly() {
        String bad = "1 / 0 = 1";
        holds("1 = 1 or " + bad);
        condFails("1 = 2 or " + bad);
        condFails(bad + " or 1 = 1");
        broken("1 = 2 and " + bad);
        condFails("1 = 1 and " + bad);
        condFails(bad + " and 1 = 2");
        holds("1 = 2 -> " + bad);
        condFails("1 = 1 -> " + bad);
        condFails(bad + " -> 1 = 1");
        holds("1 = 2 -> " + bad + " -> " + bad);
        holds("1 = 1 -> 1 = 2 -> " + bad);
        condFails("1 = 1 -> " + bad + " -> 1 = 1");
        holds("1 = 1 or " + bad + " and " + bad);
        condFails("1 = 2 and 1 = 1 or " + bad);
        holds("not 1 = 2 or " + bad);
        condFails("not {1 = 2 or " + bad + "}");
        broken("not {1 = 1 or " + bad + "}");
        condFails("1 = 1 / 0");
        condFails("1 / 0 != 1 / 0");
        condFails("distinct(1, 1, 1 / 0)");
        condFails("ordered(2, 1, 1 / 0)");
        condFails("circuit(5, 1 / 0)");
        condFails("in one (1 / 0)");
        condFails("in row (1, 2, 3, 1 / 0)");
        condFails("fits(0, 0, 1 / 0 | 0)");
        condFails("fits(0, 1 / 0, 0 | 0)");
        condFails("fits(1 / 0, 0, 0 | 0)");
        condFails("fits(0, 1, 1 | 0, 0, 1 / 0 | 0)");
        condFails("fits(0, 1, 1 | 1 / 0)");
        condFails("count(1, 1 / 0 | 2) = 0");
        condFails("count(1 | 1 / 0) = 0");
    }

    // "count(a, .. | e): how many of them equal e"

    private static void counts() {
        gives("count(1 | 1)", 1);
        gives("count(1 | 2)", 0);
        gives("count(q | 5)", 8);
        gives("count(q | 4)", 0);
        gives("count(q, 4, q | 5)", 16);
        gives("count(1, -1, 1 | -1)", 1);
        gives("count(1000 * 1000 | 1000 * 1000)", 1);
    }

    // "distinct: no two equal"

    private static void distinct() {
        holds("distinct(1)");
        holds("distinct(1, 2)");
        broken("distinct(1, 1)");
        broken("distinct(1, 2, 1)");
        broken("distinct(2, 1, 1)");
        holds("distinct(1, -1, 0)");
        broken("distinct(q)");
        holds("distinct(q[0], 4, 6)");
    }

    // "ordered: none less than the one before"

    private static void ordered() {
        holds("ordered(1)");
        holds("ordered(1, 1)");
        holds("ordered(1, 2)");
        broken("ordered(2, 1)");
        broken("ordered(1, 2, 1)");
        broken("ordered(2, 1, 3)");
        holds("ordered(q, 5)");
        broken("ordered(q, 4)");
        holds("ordered(4, q)");
        broken("ordered(6, q)");
        holds("ordered(-1000 * 1000, 1000 * 1000)");
    }

    // "circuit(s0, .. sn): all 0 .. n, and from 0 by s one comes to each and back to 0"

    private static void circuits() {
        holds("circuit(0)");
        broken("circuit(1)");
        broken("circuit(-1)");
        holds("circuit(1, 0)");
        broken("circuit(0, 1)");
        broken("circuit(1, 1)");
        broken("circuit(0, 0)");
        broken("circuit(1, 2)");
        broken("circuit(-1, 0)");
        broken("circuit(1, -1)");
        holds("circuit(1, 2, 0)");
        holds("circuit(2, 0, 1)");
        broken("circuit(1, 0, 2)");
        broken("circuit(2, 1, 0)");
        broken("circuit(0, 2, 1)");
        broken("circuit(1, 2, 3)");
        broken("circuit(1, 2, 1)");
        broken("circuit(1, 2, 2)");
        broken("circuit(1000 * 1000, 0)");
        broken("circuit(-1000 * 1000, 0)");
        holds("circuit(1, 2, 3, 4, 5, 6, 7, 8, 9, 10, 11, 0)");
        broken("circuit(1, 2, 3, 4, 5, 6, 7, 8, 9, 10, 11, 12)");
        due("circuits of four", CHECKS.house("var s[4] -1..4; rule circuit(s);").allowed(0), 6);
    }

    // "fits: tasks begin at a, take l (below 1: nothing) and use u; .. (a .. a + l - 1) .. more than c together"

    private static void fitting() {
        holds("fits(0, 1, 5 | 5)");
        holds("fits(0, 1, 4 | 5)");
        broken("fits(0, 1, 6 | 5)");
        holds("fits(0, 0, 6 | 5)");
        holds("fits(0, -1, 6 | 5)");
        holds("fits(0, 1, -6 | -6)");
        broken("fits(0, 1, -5 | -6)");
        holds("fits(0, 0, 0 | -1)");
        broken("fits(0, 1, 0 | -1)");
        holds("fits(0, 2, 1 | 2, 2, 1 | 1)");
        broken("fits(0, 3, 1 | 2, 2, 1 | 1)");
        broken("fits(2, 2, 1 | 0, 3, 1 | 1)");
        holds("fits(0, 3, 1 | 2, 0, 1 | 1)");
        holds("fits(0, 3, 1 | 2, 1, 1 | 2)");
        broken("fits(-1, 1, 1 | -1, 1, 1 | 1)");
        holds("fits(-1, 1, 1 | 0, 1, 1 | 1)");
        // One of three goes on alone at the end, when the one that gave has gone.
        holds("fits(0, 2, 2 | 0, 2, -1 | 1)");
        broken("fits(0, 3, 2 | 0, 2, -1 | 1)");
        broken("fits(0, 2, 2 | 1, 1, -1 | 1)");
        broken("fits(0, 9, 2 | 0, 5, -1 | 1)");
        broken("fits(0, 9, 2 | 0, 8, -1 | 1)");
        holds("fits(0, 9, 2 | 0, 9, -1 | 1)");
        holds("fits(0, 9, 2 | 0, 10, -1 | 1)");
        broken("fits(-4, 9, 2 | -5, 9, -1 | 1)");
        broken("fits(0, 1, 1 | 0, 1, 1 | 0, 1, 1 | 2)");
        holds("fits(0, 1, 1 | 0, 1, 1 | 0, 1, 1 | 3)");
        holds("fits(1000 * 1000, 1, 1 | -1000 * 1000, 1, 1 | 1)");
        broken("fits(-1000 * 1000, 1000 * 1000, 1 | -1, 1, 1 | 1)");
        holds("fits(-1000 * 1000, 1000 * 1000, 1 | 0, 1, 1 | 1)");
    }

    // "in t (..): one of the table's rows"

    private static void inTables() {
        holds("in one (3)");
        broken("in one (2)");
        broken("in one (4)");
        holds("in row (10, 11, 12, 13)");
        broken("in row (10, 11, 12, 14)");
        broken("in row (9, 11, 12, 13)");
        holds("in rows (1, 2)");
        holds("in rows (3, 4)");
        holds("in rows (5, 6)");
        broken("in rows (2, 3)");
        broken("in rows (1, 4)");
        broken("in rows (6, 5)");
        holds("in col (7) and in col (8) and in col (9)");
        broken("in col (6) or in col (10)");
    }

    // "A plan FAILS if an exp that is asked FAILS in any rule, soft or cost (.. in the order of the text, all of them)"

    private static void failing() {
        SolverHouse all = CHECKS.house(Checks.times(16, "cost 0: 1 / 0;"));
        due("judge when all fail", all.judge(0), 2);
        due("the first of all that fail", all.score(3), 0);
        // What a plan that FAILS leaves undone does not touch the plans behind it.
        SolverHouse half = CHECKS.house("var x 1..100; var y 1..200; cost 0: x + y + (x + y) * (1 / (x mod 2)); rule y > 0;");
        due("half of them fail", half.fails(0), 10000);
        due("the others are allowed", half.allowed(0), 10000);
        due("the last one", half.having(0, 1, 200), 50);
        String[] items = {"rule 1 / @ = 1;", "soft 0 1: 1 / @ = 1;", "cost 0: 1 / @;"};
        for (int first = 0; first < 3; first++) {
            for (int second = 0; second < 3; second++) {
                SolverHouse house = CHECKS.house("var x 0..1; var y 0..1; rule 1 = 2;" + items[first].replace("@", "x")
                    + "soft 1 3: 1 = 2; cost 2: 4;" + items[second].replace("@", "y"));
                for (int n = 0; n < 4; n++) {
                    house.plan(0, 0, n / 2);
                    house.plan(0, 1, n % 2);
                    due("judge of " + n, house.judge(0), n == 3 ? 0 : 2);
                    due("first of " + n, house.score(3), n < 2 ? 1 : n == 2 ? 4 : 0);
                    due("broken of " + n, house.score(4), n == 3 ? 1 : 0);
                    due("level 2 of " + n, house.score(2), n == 3 ? 4 : 0);
                    due("level 1 of " + n, house.score(1), n == 3 ? 3 : 0);
                }
                due("fails", house.fails(0), 3);
                for (int k = 0; k < 5; k++) {
                    house.turn(0, k, false);
                }
                due("fails with all off", house.fails(0), 3);
                due("allowed with all off", house.allowed(0), 1);
                due("best with all off", house.best(0), 1);
                due("judge with all off", house.judge(0), 1);
                house.plan(0, 0, 0);
                due("judge of a failing one with all off", house.judge(0), 2);
                due("what fails, though it is off", house.score(3), 1);
            }
        }
    }

    // "Its SCORE: three numbers, of LEVEL 0, 1, 2"

    private static void levels() {
        SolverHouse house = CHECKS.house("var x 0..1; soft 0 1: x = 0; soft 1 99: x = 0; soft 2 50: x = 1; cost 0: 1000 * 1000;"
            + "cost 0: 1000 * 1000; cost 1: -1000 * 1000; cost 1: -1000 * 1000; cost 2: 0;");
        int[][] want = {{2000000, -2000000, 50}, {2000001, -1999901, 0}};
        for (int x = 0; x < 2; x++) {
            house.plan(0, 0, x);
            due("judge", house.judge(0), 1);
            for (int level = 0; level < 3; level++) {
                due("x = " + x + ", level " + level, house.score(level), want[x][level]);
            }
        }
        StringBuilder costs = new StringBuilder();
        for (int n = 0; n < 16; n++) {
            costs.append("cost 1: ").append(n < 15 ? "1000 * 1000;" : "999 * 1000;");
        }
        house = CHECKS.house(costs.toString());
        due("sixteen costs", house.judge(0), 1);
        due("their sum", house.score(1), 15999000);
        due("best of them", house.best(0), 1);
        due("their front", house.front(0, 1, 0), 1);
        due("their pair", house.pair(0, 0), 15999000);
    }

    // "Of two plans the one with the less LEVEL 0, then 1, then 2 is better." "the first of these by values in order"

    private static void bestOnes() {
        String[] costs = {"cost 0: x; cost 1: 5 - x; cost 2: 5 - x;", "cost 1: x; cost 2: 5 - x;", "cost 2: x;",
            "cost 0: 5 - x; cost 1: x;", "cost 1: 5 - x;", "cost 2: 5 - x;", ""};
        int[] want = {0, 0, 0, 5, 5, 5, 0};
        for (int i = 0; i < costs.length; i++) {
            SolverHouse house = CHECKS.house("var x 0..5; var y 0..2;" + costs[i]);
            house.plan(0, 0, 3);
            house.plan(0, 1, 2);
            due("best of " + costs[i], house.best(0), i == 6 ? 18 : 3);
            due("x of " + costs[i], house.value(0, 0), want[i]);
            due("y of " + costs[i], house.value(0, 1), 0);
        }
        SolverHouse house = CHECKS.house("var x -2..2; var y -2..2; rule x * x + y * y = 1;");
        due("all alike", house.best(0), 4);
        due("the first: x", house.value(0, 0), -1);
        due("the first: y", house.value(0, 1), 0);
    }

    // "PINNED variables have one value; plans in which they have others do not count (but for judge())"

    private static void pinned() {
        SolverHouse house = CHECKS.house("var x 0..2; var y 0..2; rule x <= y; cost 0: 1 / (y - 1); cost 1: x; cost 2: y;");
        due("allowed", house.allowed(0), 4);
        due("fails", house.fails(0), 3);
        house.pin(0, 0, 2);
        due("left", house.told(0, 4, 0), 3);
        due("allowed with x pinned", house.allowed(0), 1);
        due("fails with x pinned", house.fails(0), 1);
        due("settled with x pinned", house.settled(0), 3);
        due("having with x pinned", house.having(0, 0, 0), 0);
        due("having with x pinned", house.having(0, 1, 2), 1);
        due("front with x pinned", house.front(0, 1, 2), 1);
        due("pair with x pinned", house.pair(0, 0) * 10 + house.pair(0, 1), 22);
        due("judge for all that", house.judge(0), 1);
        due("its score", house.score(1), 0);
        due("nearest with x pinned", house.nearest(0), 2);
        due("best with x pinned", house.best(0), 1);
        house.pin(0, 1, 0);
        due("left", house.told(0, 4, 0), 1);
        due("allowed with both pinned", house.allowed(0), 0);
        due("core with both pinned", house.core(0), 1);
        house.pin(0, 1, 1);
        due("fails with both pinned", house.fails(0), 1);
        due("core when all fail", house.core(0), 0);
        due("none is nearest", house.nearest(0), -2);
        due("none is best", house.best(0), 0);
        house.pin(0, 1, 3);
        house.pin(0, 0, -1);
        due("left with none pinned", house.told(0, 4, 0), 9);
        due("allowed with none pinned", house.allowed(0), 4);
        house.pin(0, 0, 0);
        house.pin(0, 1, 0);
        due("the first plan alone", house.allowed(0), 1);
        house.pin(0, 0, 2);
        house.pin(0, 1, 2);
        due("the last plan alone", house.allowed(0), 1);
    }

    // "THE FRONT of two LEVELS: .. for which no ALLOWED plan has both no greater and not both the same; by the first, rising"

    private static void front(String first, String second, int... want) {
        SolverHouse house = CHECKS.house("var x 0..3; table a = " + first + "; table b = " + second
            + "; cost 0: a[x]; cost 1: b[x];");
        due("front of " + first + " and " + second, house.front(0, 0, 1), want.length / 2);
        for (int i = 0; i < want.length; i++) {
            due("pair " + i / 2 + " of " + first + " and " + second, house.pair(i / 2, i % 2), want[i]);
        }
        due("no pair behind", house.pair(want.length / 2, 0), 10000000);
    }

    private static void fronts() {
        front("1, 1, 1, 1", "1, 1, 1, 1", 1, 1);
        front("1, 2, 3, 4", "4, 3, 2, 1", 1, 4, 2, 3, 3, 2, 4, 1);
        front("4, 3, 2, 1", "1, 2, 3, 4", 1, 4, 2, 3, 3, 2, 4, 1);
        front("1, 2, 3, 4", "1, 2, 3, 4", 1, 1);
        front("4, 3, 2, 1", "4, 3, 2, 1", 1, 1);
        front("1, 1, 2, 2", "2, 3, 1, 2", 1, 2, 2, 1);
        front("1, 1, 1, 1", "4, 2, 3, 2", 1, 2);
        front("4, 2, 3, 2", "1, 1, 1, 1", 2, 1);
        front("2, 1, 2, 1", "1, 2, 1, 2", 1, 2, 2, 1);
        front("-1, 0, -9999, 9999", "0, -1, 9999, -9999", -9999, 9999, -1, 0, 0, -1, 9999, -9999);
        front("1, 2, 3, 2", "3, 2, 1, 0", 1, 3, 2, 0);
        front("3, 1, 2, 0", "1, 3, 2, 9", 0, 9, 1, 3, 2, 2, 3, 1);
    }

    // "THE CORE .. one with the fewest rules, the first by numbers (compared from the least rule on)"

    private static void core(String text, int want) {
        due("core of " + text, CHECKS.house("var x 0..3;" + text).core(0), want);
    }

    private static void cores() {
        core("", 0);
        core("rule x = 0;", 0);
        core("rule x = 4;", 1);
        core("rule 1 / 0 = 1;", 0);
        core("cost 0: 1 / 0; rule x = 4;", 0);
        core("cost 0: 1 / x; rule x = 0;", 2);
        core("rule x = 4; rule x = 5;", 1);
        core("rule x = 0; rule x = 1; rule x = 4;", 4);
        core("rule x = 0; rule x = 1; rule x = 2;", 3);
        core("rule x < 4; rule x = 1; rule x = 2;", 6);
        core("rule x > 0; rule x < 2; rule x != 1;", 7);
        core("rule x < 3; rule x > 0; rule x > 1; rule x < 1; rule x < 2;", 10);
        // {0, 3} comes ahead of {1, 2}, though 2^0 + 2^3 is the greater number.
        core("rule x < 2; rule x mod 2 = 0; rule x mod 2 = 1; rule x > 1;", 6 + 3);
        core("soft 0 1: x = 9; rule x < 2; cost 0: 1; rule x > 1;", 10);
        SolverHouse house = CHECKS.house("var x 0..3; rule x = 0; rule x = 1; rule x = 2;");
        int[] want = {3, 6, 5, 3};
        int[] off = {-1, 0, 1, 2};
        for (int i = 0; i < off.length; i++) {
            for (int k = 0; k < 3; k++) {
                house.turn(0, k, k != off[i]);
            }
            due("core with rule " + off[i] + " off", house.core(0), want[i]);
        }
        for (int k = 0; k < 3; k++) {
            house.turn(0, k, false);
        }
        due("core with all off", house.core(0), 0);
    }

    // "THE NEAREST to a plan: .. the fewest variables of another value, of these the best SCORE, then the first"

    private static void nearest() {
        SolverHouse house = CHECKS.house("var x 0..3; var y 0..3; rule x + y = 4; soft 0 1: x = 3; cost 1: y;");
        int[][] plans = {{0, 0}, {1, 1}, {1, 3}, {0, 3}, {3, 3}, {2, 0}};
        int[][] want = {{2, 3, 1}, {1, 3, 1}, {0, 1, 3}, {1, 1, 3}, {1, 3, 1}, {1, 2, 2}};
        for (int i = 0; i < plans.length; i++) {
            house.plan(0, 0, plans[i][0]);
            house.plan(0, 1, plans[i][1]);
            due("nearest of " + i, house.nearest(0), want[i][0]);
            due("x of " + i, house.value(0, 0), want[i][1]);
            due("y of " + i, house.value(0, 1), want[i][2]);
        }
        house.turn(0, 1, false);
        house.turn(0, 2, false);
        house.plan(0, 0, 0);
        house.plan(0, 1, 0);
        due("nearest of like scores", house.nearest(0), 2);
        due("the first: x", house.value(0, 0), 1);
        due("the first: y", house.value(0, 1), 3);
    }

    // "A variable is SETTLED if it has one value in all ALLOWED plans."

    private static void settled() {
        String[] rules = {"", "rule x = 2;", "rule x > 2;", "rule x > 3;", "rule x = y;", "rule x + y = 6;", "rule x + y = 5;",
            "rule x = 1 and y < 3;", "rule y = 0;", "rule y / 0 = 1;"};
        int[] want = {0, 1, 1, 0, 0, 3, 0, 1, 2, 0};
        for (int i = 0; i < rules.length; i++) {
            due("settled of " + rules[i], CHECKS.house("var x 0..3; var y 0..3;" + rules[i]).settled(0), want[i]);
        }
        due("settled by ranges of one value", CHECKS.house("var x 5..5; var y 0..1; var z 5..5;").settled(0), 5);
    }
}
