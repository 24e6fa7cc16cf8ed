/** Promises 6 to 11: told, name, turn, pin, plan, value. */
public final class ToldTest {
    private static final Checks CHECKS = new Checks();
    private static final String TEXT = "var x -3..4; var row[3] 0..1; table Tab1 = 1, 2; table u = 1 | 2;"
        + " rule first: x = 1; soft 1 42: x = 2; cost 2: x; rule x > 0; rule abcdefgh: x < 9;";

    public static void main(String[] args) {
        told();
        wrong();
        names();
        never();
        turning();
        pinning();
        planning();
        CHECKS.end();
    }

    private static void due(String what, int got, int want) {
        CHECKS.due(what, got, want);
    }

    private static void told() {
        SolverHouse house = CHECKS.house(TEXT);
        int[] all = {4, 2, 5, 64, 64};
        for (int what = 0; what < all.length; what++) {
            due("told(" + what + ")", house.told(0, what, 0), all[what]);
            due("told(" + what + ") with any k", house.told(0, what, -77), all[what]);
        }
        int[][] ofVariable = {{-3, 4, 10000}, {0, 1, 10000}, {0, 1, 10000}, {0, 1, 10000}};
        for (int k = 0; k < 4; k++) {
            for (int what = 5; what <= 7; what++) {
                due("told(" + what + ", " + k + ")", house.told(0, what, k), ofVariable[k][what - 5]);
            }
        }
        int[][] ofItem = {{0, 0, 0, 1}, {1, 1, 42, 1}, {2, 2, 0, 1}, {0, 0, 0, 1}, {0, 0, 0, 1}};
        for (int k = 0; k < 5; k++) {
            for (int what = 8; what <= 11; what++) {
                due("told(" + what + ", " + k + ")", house.told(0, what, k), ofItem[k][what - 8]);
            }
        }
    }

    private static void wrong() {
        SolverHouse house = CHECKS.house(TEXT);
        for (int what = 5; what <= 11; what++) {
            due("told k -1", house.told(0, what, -1), -1);
            due("told k too great", house.told(0, what, what < 8 ? 4 : 5), -1);
            due("told k greatest", house.told(0, what, Integer.MAX_VALUE), -1);
            due("told k least", house.told(0, what, Integer.MIN_VALUE), -1);
        }
        due("told what -1", house.told(0, -1, 0), -1);
        due("told what 12", house.told(0, 12, 0), -1);
        due("told what greatest", house.told(0, Integer.MAX_VALUE, 0), -1);
        due("told p 1", house.told(1, 0, 0), -2);
        due("told p 4", house.told(4, 0, 0), -1);
        due("told p -1", house.told(-1, 0, 0), -1);
    }

    private static void spelt(SolverHouse house, int sort, int k, String name) {
        for (int i = 0; i < name.length(); i++) {
            due("name(" + sort + ", " + k + ", " + i + ")", house.name(0, sort, k, i), name.charAt(i));
        }
        due("name(" + sort + ", " + k + ") behind", house.name(0, sort, k, name.length()), -1);
        due("name(" + sort + ", " + k + ") before", house.name(0, sort, k, -1), -1);
        due("name(" + sort + ", " + k + ") far", house.name(0, sort, k, Integer.MAX_VALUE), -1);
    }

    private static void names() {
        SolverHouse house = CHECKS.house(TEXT);
        spelt(house, 0, 0, "x");
        spelt(house, 0, 1, "row");
        spelt(house, 0, 3, "row");
        spelt(house, 0, 4, "");
        spelt(house, 0, -1, "");
        spelt(house, 1, 0, "Tab1");
        spelt(house, 1, 1, "u");
        spelt(house, 1, 2, "");
        spelt(house, 2, 0, "first");
        spelt(house, 2, 1, "");
        spelt(house, 2, 2, "");
        spelt(house, 2, 3, "");
        spelt(house, 2, 4, "abcdefgh");
        spelt(house, 2, 5, "");
        spelt(house, 3, 0, "");
        spelt(house, -1, 0, "");
        due("name p 3", house.name(3, 0, 0, 0), -2);
        due("name p 4", house.name(4, 0, 0, 0), -1);
    }

    /** What no problem could ever tell is BAD, also while there is no problem. */
    private static void never() {
        SolverHouse[] houses = {new SolverHouse(), CHECKS.house(TEXT)};
        int[] beyond = {-1, Integer.MIN_VALUE, Integer.MAX_VALUE};
        for (SolverHouse house : houses) {
            for (int n : beyond) {
                due("told of nothing, what " + n, house.told(1, n, 0), -1);
                due("name of nothing, sort " + n, house.name(1, n, 0, 0), -1);
            }
            due("told of nothing, what 12", house.told(1, 12, 0), -1);
            due("name of nothing, sort 3", house.name(1, 3, 0, 0), -1);
            for (int what = 0; what <= 11; what++) {
                due("told of nothing, what " + what, house.told(1, what, 0), -2);
            }
            for (int sort = 0; sort <= 2; sort++) {
                due("name of nothing, sort " + sort, house.name(1, sort, 0, 0), -2);
            }
        }
    }

    private static void turning() {
        SolverHouse house = CHECKS.house(TEXT);
        for (int k = 0; k < 5; k++) {
            due("turn on what is on", house.turn(0, k, true), 1);
            due("turn off", house.turn(0, k, false), 1);
            due("told off", house.told(0, 11, k), 0);
            due("turn off what is off", house.turn(0, k, false), 0);
            due("others are on", house.told(0, 11, (k + 1) % 5), k == 4 ? 0 : 1);
        }
        due("turn on", house.turn(0, 2, true), 0);
        due("told on", house.told(0, 11, 2), 1);
        due("turn 5", house.turn(0, 5, true), -1);
        due("turn -1", house.turn(0, -1, true), -1);
        due("turn 32", house.turn(0, 32, true), -1);
        due("turn p 1", house.turn(1, 0, true), -2);
        due("turn p -1", house.turn(-1, 0, true), -1);
    }

    private static void pinning() {
        SolverHouse house = CHECKS.house(TEXT);
        due("pin", house.pin(0, 0, -3), 1);
        due("told pinned", house.told(0, 7, 0), -3);
        due("left", house.told(0, 4, 0), 8);
        due("space stays", house.told(0, 3, 0), 64);
        due("plan stays", house.value(0, 0), -3);
        due("pin to another", house.pin(0, 0, 4), 1);
        due("told pinned", house.told(0, 7, 0), 4);
        due("pin one of the row", house.pin(0, 3, 1), 1);
        due("left", house.told(0, 4, 0), 4);
        due("pin below", house.pin(0, 0, -4), 0);
        due("told not pinned", house.told(0, 7, 0), 10000);
        due("left", house.told(0, 4, 0), 32);
        due("pin above", house.pin(0, 3, 2), 0);
        due("told not pinned", house.told(0, 7, 3), 10000);
        due("pin what isn't pinned away", house.pin(0, 3, 10000), 0);
        due("pin 4", house.pin(0, 4, 0), -1);
        due("pin -1", house.pin(0, -1, 0), -1);
        due("pin p 2", house.pin(2, 0, 0), -2);
        due("pin p 4", house.pin(4, 0, 0), -1);
        house.pin(0, 0, 2);
        Checks.read(house, 0, TEXT);
        due("a new problem has no pins", house.told(0, 7, 0), 10000);
    }

    private static void planning() {
        SolverHouse house = CHECKS.house(TEXT);
        due("first values", house.value(0, 0), -3);
        due("first values", house.value(0, 2), 0);
        due("plan", house.plan(0, 0, 4), 1);
        due("value", house.value(0, 0), 4);
        due("plan above", house.plan(0, 0, 5), -1);
        due("plan below", house.plan(0, 0, -4), -1);
        due("value stays", house.value(0, 0), 4);
        due("plan last", house.plan(0, 3, 1), 1);
        due("value last", house.value(0, 3), 1);
        due("value of the one before", house.value(0, 2), 0);
        due("plan 4", house.plan(0, 4, 0), -1);
        due("plan -1", house.plan(0, -1, 0), -1);
        due("plan p 1", house.plan(1, 0, 0), -2);
        due("plan p 4", house.plan(4, 0, 0), -1);
        due("value 4", house.value(0, 4), 10000);
        due("value -1", house.value(0, -1), 10000);
        due("value p 1", house.value(1, 0), 10000);
        due("value p 4", house.value(4, 0), 10000);
        due("value p -1", house.value(-1, 0), 10000);
        house.pin(0, 0, 1);
        due("a plan is free of pins", house.plan(0, 0, 2), 1);
        due("value", house.value(0, 0), 2);
    }
}
