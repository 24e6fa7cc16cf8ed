/** Promises 1 to 3: a new object, feed, cut. */
public final class TapeTest {
    private static final Checks CHECKS = new Checks();

    public static void main(String[] args) {
        newObject();
        feeding();
        order();
        cutting();
        CHECKS.end();
    }

    private static void due(String what, int got, int want) {
        CHECKS.due(what, got, want);
    }

    private static void newObject() {
        SolverHouse house = new SolverHouse();
        due("cut(0) of a new tape", house.cut(0), 0);
        due("cut(1) of a new tape", house.cut(1), -1);
        due("place() at first", house.place(), -2);
        due("score(0) at first", house.score(0), -2);
        due("pair(0, 0) at first", house.pair(0, 0), 10000000);
        for (int p = -1; p <= 4; p++) {
            int none = p < 0 || p > 3 ? -1 : -2;
            due("told", house.told(p, 0, 0), none);
            due("name", house.name(p, 0, 0, 0), none);
            due("turn", house.turn(p, 0, true), none);
            due("pin", house.pin(p, 0, 0), none);
            due("plan", house.plan(p, 0, 0), none);
            due("value", house.value(p, 0), 10000);
            due("judge", house.judge(p), none);
            due("best", house.best(p), none);
            due("allowed", house.allowed(p), none);
            due("fails", house.fails(p), none);
            due("front", house.front(p, 0, 1), none);
            due("core", house.core(p), none);
            due("nearest", house.nearest(p), none);
            due("settled", house.settled(p), none);
            due("having", house.having(p, 0, 0), none);
        }
        due("score(0) after calls that judged nothing", house.score(0), -2);
    }

    private static void feeding() {
        SolverHouse house = new SolverHouse();
        int blanks = 0x20202020;
        for (int n = 1; n <= 150; n++) {
            due("feed " + n, house.feed(blanks, blanks, blanks, blanks, blanks), 20 * n);
        }
        due("feed 151", house.feed(0, 0, 0, 0, 0), -3);
        due("nothing came", house.cut(0), 3000);
        due("cut(19)", house.cut(19), 2981);
        due("feed into 19 bytes", house.feed(0, 0, 0, 0, 0), -3);
        due("cut(1)", house.cut(1), 2980);
        due("feed into 20 bytes", house.feed(blanks, blanks, blanks, blanks, blanks), 3000);
        due("a tape of blanks", house.problem(0), 1);
        due("the tape is empty then", house.cut(0), 0);
    }

    private static void order() {
        SolverHouse house = new SolverHouse();
        // "var " "x 0." ".7; " "#\n$$" "...."
        house.feed(0x76617220, 0x7820302e, 0x2e373b20, 0x230a2424, 0x2e2e2e2e);
        due("a stray byte", house.problem(0), -11);
        due("its place", house.place(), 14);
        house.feed(0x76617220, 0x7820302e, 0x2e373b20, 0x230aff80, 0x2e2e2e2e);
        due("a byte above 127", house.problem(0), -11);
        due("its place", house.place(), 14);
        house.feed(0x76617220, 0x7820302e, 0x2e373b20, 0x2320ff80, 0x2e2e2e2e);
        due("bytes above 127 in a remark", house.problem(0), 8);
    }

    private static void cutting() {
        SolverHouse house = new SolverHouse();
        house.feed(0, 0, 0, 0, 0);
        due("cut(21)", house.cut(21), -1);
        due("cut(-1)", house.cut(-1), -1);
        due("cut(least)", house.cut(Integer.MIN_VALUE), -1);
        due("cut(greatest)", house.cut(Integer.MAX_VALUE), -1);
        due("cut(5)", house.cut(5), 15);
        due("cut(15)", house.cut(15), 0);
        due("an empty text", house.problem(3), 1);
        due("no variables", house.told(3, 0, 0), 0);
        due("no value", house.value(3, 0), 10000);
        due("allowed", house.allowed(3), 1);
        due("best", house.best(3), 1);
        due("settled", house.settled(3), 0);
        due("core", house.core(3), 0);
        due("nearest", house.nearest(3), 0);
    }
}
