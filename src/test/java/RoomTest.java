import java.lang.management.ManagementFactory;

/** Runs of calls with any arguments: none throws, and what a run makes stays small. */
public final class RoomTest {
    private static final Checks CHECKS = new Checks();
    private static final long MOST_BYTES = 16L << 20;
    private long seed = 7;

    public static void main(String[] args) {
        new RoomTest().wildCalls();
        dearRun();
        growingRun();
        manyHouses();
        CHECKS.end();
    }

    private int pick(int n) {
        seed = seed * 6364136223846793005L + 1442695040888963407L;
        return (int) ((seed >>> 33) % n);
    }

    private int wild() {
        switch (pick(8)) {
            case 0: return Integer.MIN_VALUE + pick(3);
            case 1: return Integer.MAX_VALUE - pick(3);
            case 2: return pick(2000) - 1000;
            default: return pick(7) - 1;
        }
    }

    private static long allocated() {
        java.lang.management.ThreadMXBean bean = ManagementFactory.getThreadMXBean();
        return bean instanceof com.sun.management.ThreadMXBean
            ? ((com.sun.management.ThreadMXBean) bean).getCurrentThreadAllocatedBytes() : 0;
    }

    private static final String[] TEXTS = {
        "", "var x 0..9;", "var x 0..9; var q[3] -1..2; rule x > q[x]; cost 0: sum(q); soft 1 4: distinct(q);",
        "table t = 1, 2 | 3, 4; var x 0..1; rule in t (x, 2); rule t[x, x] < 3;", "var x 0..1; rule x = $;",
        "var x[8] 0..0; var y[4] 0..1; rule sum(x, y) = 5;", "var x 0..999; var y 0..99;"
    };

    private void wildCalls() {
        int calls = 0;
        for (int n = 0; n < 400; n++) {
            SolverHouse house = new SolverHouse();
            for (int call = 0; call < 512; call++) {
                calls += wildCall(house) < Integer.MIN_VALUE + 1 ? 0 : 1;
            }
        }
        CHECKS.due("calls that came back", calls, 400 * 512);
    }

    private int wildCall(SolverHouse house) {
        int p = pick(6) - 1;
        switch (pick(22)) {
            case 0: return house.feed(wild(), wild(), wild(), wild(), wild());
            case 1: return house.cut(pick(3) == 0 ? wild() : house.cut(0));
            case 2: case 3:
                house.cut(house.cut(0));
                Checks.feed(house, TEXTS[pick(TEXTS.length)]);
                return house.problem(p);
            case 4: return house.place();
            case 5: return house.told(p, pick(14) - 1, wild());
            case 6: return house.name(p, pick(5) - 1, wild(), wild());
            case 7: return house.turn(p, wild(), pick(2) == 0);
            case 8: return house.pin(p, wild(), wild());
            case 9: return house.plan(p, wild(), wild());
            case 10: return house.value(p, wild());
            case 11: return house.judge(p);
            case 12: return house.score(wild());
            case 13: return house.best(p);
            case 14: return house.allowed(p);
            case 15: return house.fails(p);
            case 16: return house.front(p, wild(), wild());
            case 17: return house.pair(wild(), wild());
            case 18: return house.core(p);
            case 19: return house.nearest(p);
            case 20: return house.settled(p);
            default: return house.having(wild(), wild(), wild());
        }
    }

    private static void small(String run, long before) {
        long bytes = allocated() - before;
        CHECKS.due(run + " made " + bytes + " bytes; few enough", bytes < MOST_BYTES ? 1 : 0, 1);
    }

    /** The largest problems in all places, and a turn before each question. */
    private static void dearRun() {
        long before = allocated();
        SolverHouse house = new SolverHouse();
        for (int p = 0; p < 4; p++) {
            Checks.read(house, p, "var x 0..99; var y 0..199; cost 0: -200 * x - y; cost 1: 200 * x + y;");
        }
        for (int n = 0; n < 230; n++) {
            house.turn(n & 3, 0, n % 8 > 3);
            CHECKS.due("front", house.front(n & 3, 0, 1), n % 8 > 3 ? 20000 : 1);
        }
        small("a run of fronts", before);
    }

    /** Problems that grow from call to call. */
    private static void growingRun() {
        long before = allocated();
        SolverHouse house = new SolverHouse();
        for (int n = 1; n <= 100; n++) {
            Checks.read(house, n & 3, "var x 1.." + n + "; var y 1..200; rule x = y;");
            CHECKS.due("allowed", house.allowed(n & 3), n);
        }
        small("a run of growing problems", before);
    }

    private static void manyHouses() {
        long before = allocated();
        int spaces = 0;
        for (int n = 0; n < 100; n++) {
            SolverHouse house = new SolverHouse();
            spaces += Checks.read(house, 0, "var x 0..9;") + house.core(0);
        }
        CHECKS.due("spaces", spaces, 1000);
        small("a hundred houses", before);
    }
}
