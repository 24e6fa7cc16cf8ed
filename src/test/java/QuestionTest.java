/** Promises 12 to 22: judge, score, best, allowed, fails, front, pair, core, nearest, settled, having. */
public final class QuestionTest {
    private static final Checks CHECKS = new Checks();

    public static void main(String[] args) {
        judging();
        scoring();
        failing();
        best();
        bestOfNone();
        offItems();
        counting();
        fronts();
        manyPairs();
        cores();
        coresOfAll();
        nearest();
        settled();
        having();
        pinsCount();
        apart();
        CHECKS.end();
    }

    private static void due(String what, int got, int want) {
        CHECKS.due(what, got, want);
    }

    private static void scores(SolverHouse house, String what, int... want) {
        for (int i = 0; i < want.length; i++) {
            due(what + " score(" + i + ")", house.score(i), want[i]);
        }
    }

    private static void judging() {
        SolverHouse house = CHECKS.house("var x 0..3; rule x > 0; rule x > 1; rule 6 / (x - 3) < 9;");
        due("x = 0", house.judge(0), 0);
        scores(house, "x = 0", 0, 0, 0, 0, 2);
        house.plan(0, 0, 1);
        due("x = 1", house.judge(0), 0);
        scores(house, "x = 1", 0, 0, 0, 1, 1);
        house.plan(0, 0, 2);
        due("x = 2", house.judge(0), 1);
        scores(house, "x = 2", 0, 0, 0, -2, 0);
        house.plan(0, 0, 3);
        due("x = 3", house.judge(0), 2);
        scores(house, "x = 3", 0, 0, 0, 2, 0);
        due("judge p 1", house.judge(1), -2);
        due("judge p -1", house.judge(-1), -1);
        due("judge p 4", house.judge(4), -1);
        scores(house, "none judged", 0, 0, 0, 2, 0);
        due("score(5)", house.score(5), -1);
        due("score(-1)", house.score(-1), -1);
        due("score(5) of a new one", new SolverHouse().score(5), -1);
        house.plan(0, 0, 1);
        house.pin(0, 0, 2);
        due("judge is free of pins", house.judge(0), 0);
        due("the plan stays", house.value(0, 0), 1);
        Checks.read(house, 0, "");
        scores(house, "of the latest judge() still", 0, 0, 0, 1, 1);
    }

    private static void scoring() {
        SolverHouse house = CHECKS.house("var x 0..9; rule x < 5; soft 0 3: x = 1; soft 0 4: x = 2; soft 1 99: x = 3;"
            + " cost 0: x * x; cost 2: -x; cost 2: 2;");
        due("x = 0", house.judge(0), 1);
        scores(house, "x = 0", 7, 99, 2, -2, 0);
        house.plan(0, 0, 2);
        house.judge(0);
        scores(house, "x = 2", 7, 99, 0, -2, 0);
        house.plan(0, 0, 7);
        due("x = 7", house.judge(0), 0);
        scores(house, "x = 7", 56, 99, -5, 0, 1);
        house.turn(0, 0, false);
        due("x = 7 with the rule off", house.judge(0), 1);
        scores(house, "x = 7", 56, 99, -5, -2, 0);
        house.turn(0, 1, false);
        house.turn(0, 3, false);
        house.turn(0, 5, false);
        house.judge(0);
        scores(house, "x = 7 with softs and a cost off", 53, 0, 2, -2, 0);
        Checks.read(house, 3, "cost 0: 1000 * 1000; cost 0: 1000 * 1000; cost 1: -1000 * 1000; cost 1: -1000;");
        due("sums of levels are free", house.judge(3), 1);
        scores(house, "large", 2000000, -1001000, 0, -2, 0);
    }

    private static void failing() {
        SolverHouse house = CHECKS.house("var x 0..3; rule x = 9; soft 0 5: 1 / x = 1; cost 1: 1 / (x - 1); cost 2: 5;");
        due("a soft fails", house.judge(0), 2);
        scores(house, "x = 0", 0, 0, 0, 1, 0);
        house.plan(0, 0, 1);
        due("a cost fails", house.judge(0), 2);
        scores(house, "x = 1", 0, 0, 0, 2, 0);
        house.turn(0, 2, false);
        due("it fails though it is off", house.judge(0), 2);
        scores(house, "x = 1", 0, 0, 0, 2, 0);
        due("fails", house.fails(0), 2);
        house.turn(0, 0, false);
        due("allowed", house.allowed(0), 2);
        house.turn(0, 1, false);
        due("fails though all is off", house.fails(0), 2);
        house.plan(0, 0, 2);
        due("x = 2", house.judge(0), 1);
        scores(house, "x = 2", 0, 0, 5, -2, 0);
    }

    private static void best() {
        SolverHouse house = CHECKS.house("var x 0..3; var y 0..3; rule x + y = 3; cost 1: (x - 1) * (x - 2); cost 2: y mod 2;");
        due("best", house.best(0), 1);
        due("x", house.value(0, 0), 1);
        due("y", house.value(0, 1), 2);
        scores(house, "best", 0, 0, 0, -2, 0);
        house.turn(0, 2, false);
        house.plan(0, 0, 3);
        due("two best", house.best(0), 2);
        due("the first of them", house.value(0, 0), 1);
        house.turn(0, 1, false);
        due("four best", house.best(0), 4);
        due("the first of them", house.value(0, 0), 0);
        due("y of it", house.value(0, 1), 3);
        Checks.read(house, 1, "var x 0..2; cost 0: x / 2; cost 1: 5 - x; cost 2: -99 * x;");
        due("level by level", house.best(1), 1);
        due("x", house.value(1, 0), 1);
        scores(house, "best", 0, 4, -99, -2, 0);
        due("best p 2", house.best(2), -2);
        due("best p 4", house.best(4), -1);
    }

    private static void bestOfNone() {
        SolverHouse house = CHECKS.house("var x 0..3; rule x > 3; cost 0: x;");
        house.plan(0, 0, 2);
        due("judge", house.judge(0), 0);
        house.plan(0, 0, 1);
        due("none", house.best(0), 0);
        due("the plan stays", house.value(0, 0), 1);
        scores(house, "of the judge() before", 2, 0, 0, 0, 1);
        due("nearest", house.nearest(0), -2);
        due("the plan stays", house.value(0, 0), 1);
        due("allowed", house.allowed(0), 0);
        due("settled", house.settled(0), 0);
        due("having", house.having(0, 0, 1), 0);
        due("front", house.front(0, 0, 1), 0);
        due("pair", house.pair(0, 0), 10000000);
    }

    private static void offItems() {
        SolverHouse house = CHECKS.house("var x 0..3; soft 0 2: x = 3; cost 0: x;");
        due("best", house.best(0), 1);
        due("x", house.value(0, 0), 0);
        scores(house, "x = 0", 2, 0, 0, -2, 0);
        house.turn(0, 1, false);
        due("best without the cost", house.best(0), 1);
        due("x", house.value(0, 0), 3);
        house.turn(0, 0, false);
        due("best without both", house.best(0), 4);
        house.turn(0, 1, true);
        house.turn(0, 0, true);
        due("best with both", house.best(0), 1);
        due("x", house.value(0, 0), 0);
    }

    private static void counting() {
        SolverHouse house = CHECKS.house("var x 0..99; var y 0..199; rule x < y; rule 7 / (x - y) < 9;");
        due("allowed", house.allowed(0), 20000 - 100 - (100 * 99 / 2));
        due("fails", house.fails(0), 100);
        house.turn(0, 0, false);
        due("allowed", house.allowed(0), 19900);
        due("allowed p 1", house.allowed(1), -2);
        due("allowed p -1", house.allowed(-1), -1);
        due("fails p 3", house.fails(3), -2);
        due("fails p 4", house.fails(4), -1);
    }

    private static void pairs(SolverHouse house, int a, int b, int... want) {
        due("front", house.front(0, a, b), want.length / 2);
        for (int i = 0; i < want.length; i++) {
            due("pair " + i, house.pair(i / 2, i % 2), want[i]);
        }
        due("pair behind", house.pair(want.length / 2, 0), 10000000);
    }

    private static void fronts() {
        SolverHouse house = CHECKS.house("var x 0..4; table c = 5, 3, 3, 9, 1; table d = 1, 4, 3, 0, 3;"
            + " cost 0: c[x]; cost 2: d[x]; cost 1: x;");
        pairs(house, 0, 2, 1, 3, 5, 1, 9, 0);
        pairs(house, 2, 0, 0, 9, 1, 5, 3, 1);
        pairs(house, 0, 1, 1, 4, 3, 1, 5, 0);
        due("pair -1", house.pair(-1, 0), 10000000);
        due("pair which 2", house.pair(0, 2), 10000000);
        due("pair which -1", house.pair(0, -1), 10000000);
        due("pair far", house.pair(Integer.MAX_VALUE, 1), 10000000);
        due("front same", house.front(0, 1, 1), -1);
        due("front a 3", house.front(0, 3, 1), -1);
        due("front b -1", house.front(0, 0, -1), -1);
        due("front p 1", house.front(1, 0, 1), -2);
        due("front p 4", house.front(4, 0, 1), -1);
        due("front p 1 same", house.front(1, 2, 2), -1);
        due("the latest that told a number stays", house.pair(0, 1), 4);
        Checks.read(house, 0, "");
        due("also when its problem goes", house.pair(2, 0), 5);
        pairs(house, 0, 1, 0, 0);
    }

    private static void manyPairs() {
        SolverHouse house = CHECKS.house("var x 0..99; var y 0..199; cost 0: -200 * x - y; cost 1: 200 * x + y;");
        due("front", house.front(0, 0, 1), 20000);
        due("first", house.pair(0, 0), -19999);
        due("first", house.pair(0, 1), 19999);
        due("last", house.pair(19999, 0), 0);
        due("behind", house.pair(20000, 0), 10000000);
        for (int i = 0; i < 20000; i++) {
            due("first of " + i, house.pair(i, 0), i - 19999);
            due("second of " + i, house.pair(i, 1), 19999 - i);
        }
        due("front turned", house.front(0, 1, 0), 20000);
        due("seventh", house.pair(7, 0), 7);
        due("seventh", house.pair(7, 1), -7);
    }

    private static void core(String text, int want) {
        due("core of " + text, CHECKS.house(text).core(0), want);
    }

    private static void cores() {
        core("var x 0..3; rule x > 1;", 0);
        core("var x 0..3; rule x > 3;", 1);
        core("var x 0..3; cost 0: x; rule x > 0; rule x > 3;", 4);
        core("var x 0..3; rule x > 0; rule x > 1; rule x < 1; rule x < 2;", 5);
        core("var x 0..3; rule x > 2; rule x < 2; soft 0 1: x > 9; rule x = 2;", 3);
        core("var x 0..2; rule x != 0; rule x != 1; rule x != 2;", 7);
        core("var x 0..2; rule x != 0; rule x != 1; rule x != 2; rule x < 0;", 8);
        core("var x 0..2; rule x != 0; rule 1 / (x - 1) < 9; rule x != 2;", 5);
        core("var x 0..2; rule 1 / 0 = 1; rule x > 3;", 0);
        core("var x 0..1; rule 1 = 1; rule x = 0; rule 1 = 1; rule x = 1;", 10);
        core("var x 0..1; rule 1 = 1; rule x = 0; rule x = 1; rule x = 1; rule x = 0;", 6);
        // {1, 4} comes ahead of {2, 3}, though 2^1 + 2^4 is the greater number.
        core("var x 0..3; rule 1 = 1; rule x < 2; rule x mod 2 = 0; rule x mod 2 = 1; rule x > 1;", 18);
        SolverHouse house = CHECKS.house("var x 0..1; rule x = 0; rule x = 1; rule x < 1;");
        due("core", house.core(0), 3);
        house.turn(0, 0, false);
        due("core with rule 0 off", house.core(0), 6);
        house.turn(0, 1, false);
        due("core with none", house.core(0), 0);
        house.pin(0, 0, 1);
        due("core with a pin", house.core(0), 4);
        due("core p 1", house.core(1), -2);
        due("core p 4", house.core(4), -1);
    }

    private static void coresOfAll() {
        StringBuilder text = new StringBuilder("var x 0..15;");
        for (int k = 0; k < 16; k++) {
            text.append("rule x != ").append(k).append(";");
        }
        core(text.toString(), 65535);
        core(text.toString().replace("!= 15", "< 14"), 65535 - (1 << 14));
        core(text.toString().replace("!= 15", "< 0"), 1 << 15);
    }

    private static void nearest() {
        SolverHouse house = CHECKS.house("var a 0..2; var b 0..2; var c 0..2; rule a + b + c = 4; cost 0: c; cost 1: b;");
        due("nearest to 0 0 0", house.nearest(0), 2);
        due("a", house.value(0, 0), 2);
        due("b", house.value(0, 1), 2);
        due("c", house.value(0, 2), 0);
        due("nearest to itself", house.nearest(0), 0);
        house.plan(0, 2, 1);
        due("nearest to 2 2 1", house.nearest(0), 1);
        due("c", house.value(0, 2), 0);
        house.plan(0, 0, 0);
        house.pin(0, 0, 1);
        due("nearest to 0 2 0 with a pin", house.nearest(0), 2);
        due("a", house.value(0, 0), 1);
        due("b", house.value(0, 1), 2);
        due("c", house.value(0, 2), 1);
        house.turn(0, 1, false);
        house.turn(0, 2, false);
        house.pin(0, 0, 9);
        house.plan(0, 0, 0);
        house.plan(0, 1, 0);
        house.plan(0, 2, 0);
        due("without costs", house.nearest(0), 2);
        due("the first: a", house.value(0, 0), 0);
        due("the first: b", house.value(0, 1), 2);
        Checks.read(house, 2, "var q[8] 0..1; var r[4] 0..1; rule sum(q, r) = 12;");
        due("all twelve change", house.nearest(2), 12);
        due("the last one", house.value(2, 11), 1);
        due("nearest p 1", house.nearest(1), -2);
        due("nearest p -1", house.nearest(-1), -1);
        due("nothing was judged", house.score(0), -2);
    }

    private static void settled() {
        SolverHouse house = CHECKS.house("var a 0..2; var b 0..2; var c 0..2; rule a + b = 4; rule c > 0;");
        due("settled", house.settled(0), 3);
        house.turn(0, 1, false);
        due("settled", house.settled(0), 3);
        house.pin(0, 2, 0);
        due("settled with a pin", house.settled(0), 7);
        house.turn(0, 1, true);
        due("settled with none", house.settled(0), 0);
        Checks.read(house, 1, "var q[8] 0..0; var r[4] 5..5;");
        due("settled all", house.settled(1), 4095);
        due("settled p 2", house.settled(2), -2);
        due("settled p 4", house.settled(4), -1);
    }

    private static void having() {
        SolverHouse house = CHECKS.house("var a -1..2; var b 0..2; rule a < b;");
        int[] want = {3, 2, 1, 0};
        for (int v = -1; v <= 2; v++) {
            due("having a " + v, house.having(0, 0, v), want[v + 1]);
        }
        due("having b 2", house.having(0, 1, 2), 3);
        house.pin(0, 0, 1);
        due("having a 1 pinned", house.having(0, 0, 1), 1);
        due("having a 0 pinned away", house.having(0, 0, 0), 0);
        due("having a -2", house.having(0, 0, -2), -1);
        due("having a 3", house.having(0, 0, 3), -1);
        due("having variable 2", house.having(0, 2, 0), -1);
        due("having variable -1", house.having(0, -1, 0), -1);
        due("having p 1", house.having(1, 0, 0), -2);
        due("having p 4", house.having(4, 0, 0), -1);
    }

    /** Plans that what is pinned rules out do not count. */
    private static void pinsCount() {
        SolverHouse house = CHECKS.house("var x 0..3; var y 0..3; rule x != y; cost 0: x; cost 1: 6 / (y - 3);");
        due("allowed", house.allowed(0), 9);
        due("fails", house.fails(0), 4);
        house.pin(0, 1, 3);
        due("allowed", house.allowed(0), 0);
        due("fails", house.fails(0), 4);
        due("core", house.core(0), 0);
        house.pin(0, 1, 0);
        due("allowed", house.allowed(0), 3);
        due("fails", house.fails(0), 0);
        due("best", house.best(0), 1);
        due("x", house.value(0, 0), 1);
        due("y", house.value(0, 1), 0);
        due("front", house.front(0, 0, 1), 1);
        due("pair", house.pair(0, 1), -2);
        house.pin(0, 0, 0);
        due("allowed", house.allowed(0), 0);
        due("core", house.core(0), 1);
    }

    /** Four problems do not touch each other. */
    private static void apart() {
        SolverHouse house = new SolverHouse();
        for (int p = 0; p < 4; p++) {
            due("problem " + p, Checks.read(house, p, "var x 0.." + (p + 3) + "; rule x > " + p + ";"), p + 4);
        }
        house.pin(1, 0, 2);
        house.turn(2, 0, false);
        house.plan(3, 0, 6);
        int[] allowed = {3, 1, 6, 3};
        for (int round = 0; round < 2; round++) {
            for (int p = 0; p < 4; p++) {
                due("allowed " + p, house.allowed(p), allowed[p]);
            }
        }
        due("value 3", house.value(3, 0), 6);
        due("value 2", house.value(2, 0), 0);
        due("replaced", Checks.read(house, 2, "var x 0..9; rule x = 1; rule x = 2;"), 10);
        due("allowed 2", house.allowed(2), 0);
        due("core 2", house.core(2), 3);
        due("allowed 0", house.allowed(0), 3);
        due("allowed 3", house.allowed(3), 3);
    }
}
