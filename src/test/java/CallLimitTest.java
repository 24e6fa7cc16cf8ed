/** The boundary cases that each promise names: too small, too large, empty, full, refused. */
public final class CallLimitTest {
    private static final Checks CHECKS = new Checks();
    private static final int BAD = -1;
    private static final int NO = -2;
    private static final int FULL = -3;
    private static final int NONE = 10000;
    private static final int NO_PAIR = 10000000;
    private static final int LEAST = Integer.MIN_VALUE;
    private static final int GREATEST = Integer.MAX_VALUE;
    /** Twelve variables (x -3..4, q[8] 0..0, r[3] 0..1), eight tables, sixteen rules, softs and costs. */
    private static final String MOST = "var x -3..4; var q[8] 0..0; var r[3] 0..1;"
        + "table a = 1; table b = 1; table c = 1; table d = 1; table e = 1; table f = 1; table g = 1; table Eightlet = 1;"
        + "rule first: 1 = 1;" + Checks.times(13, "soft 2 99: 1 = 1;") + "cost 1: x; rule lastrule: x < 9;";

    public static void main(String[] args) {
        newObject();
        slots();
        feeding();
        cutting();
        problems();
        oneBeforeStays();
        allNew();
        newKinds();
        places();
        telling();
        naming();
        turning();
        pinning();
        planning();
        judging();
        scoring();
        scoresStay();
        best();
        allowedAndFails();
        fronts();
        pairsStay();
        cores();
        nearest();
        settled();
        having();
        manyCalls();
        CHECKS.end();
    }

    private static void due(String what, long got, long want) {
        CHECKS.due(what, got, want);
    }

    // Promise 1: "Nothing on THE TAPE, no problems."

    private static void newObject() {
        SolverHouse house = new SolverHouse();
        due("cut(0)", house.cut(0), 0);
        due("cut(1)", house.cut(1), BAD);
        due("place()", house.place(), NO);
        due("pair(0, 0)", house.pair(0, 0), NO_PAIR);
        due("pair(0, 1)", house.pair(0, 1), NO_PAIR);
        for (int what = 0; what <= 4; what++) {
            due("score(" + what + ")", house.score(what), NO);
        }
        for (int p = 0; p < 4; p++) {
            due("told(" + p + ")", house.told(p, 3, 0), NO);
        }
        due("constants", SolverHouse.BAD * 100 + SolverHouse.NO * 10 + SolverHouse.FULL, -123);
        due("an empty tape", house.problem(0), 1);
        SolverHouse other = new SolverHouse();
        due("objects are apart", other.told(0, 3, 0), NO);
    }

    /** Each call that takes a p, by number; value() is none of them. */
    private static int call(SolverHouse house, int which, int p) {
        switch (which) {
            case 0: return house.told(p, 0, 0);
            case 1: return house.told(p, 5, 0);
            case 2: return house.told(p, 11, 0);
            case 3: return house.name(p, 0, 0, 0);
            case 4: return house.turn(p, 0, true);
            case 5: return house.pin(p, 0, 9);
            case 6: return house.plan(p, 0, 0);
            case 7: return house.judge(p);
            case 8: return house.best(p);
            case 9: return house.allowed(p);
            case 10: return house.fails(p);
            case 11: return house.front(p, 0, 1);
            case 12: return house.core(p);
            case 13: return house.nearest(p);
            case 14: return house.settled(p);
            default: return house.having(p, 0, 0);
        }
    }

    // "BAD: no such p; NO: no such problem", of all that take a p

    private static void slots() {
        int[] noSuch = {LEAST, -4, -1, 4, 5, 256, GREATEST};
        int[] want = {1, 0, 1, 'x', 1, 0, 1, 1, 1, 1, 0, 1, 0, 0, 1, 1};
        SolverHouse house = new SolverHouse();
        for (int told = -1; told < 4; told++) {
            if (told >= 0) {
                due("problem(" + told + ")", Checks.read(house, told, "var x 0..0; rule x = 0;"), 1);
            }
            for (int which = 0; which < want.length; which++) {
                for (int p : noSuch) {
                    due("call " + which + " of p " + p, call(house, which, p), BAD);
                }
                for (int p = 0; p < 4; p++) {
                    due("call " + which + " of p " + p + " with " + told, call(house, which, p), p <= told ? want[which] : NO);
                }
            }
            for (int p : noSuch) {
                due("value of p " + p, house.value(p, 0), NONE);
            }
            for (int p = 0; p < 4; p++) {
                due("value of p " + p, house.value(p, 0), p <= told ? 0 : NONE);
            }
        }
    }

    // Promise 2: "Twenty bytes come behind THE TAPE, the highest of each int first: how many it has. FULL: more than 3000."

    private static void feeding() {
        int blank = 0x20202020;
        for (int over = 0; over < 20; over++) {
            SolverHouse house = new SolverHouse();
            for (int n = 1; n <= 149; n++) {
                due("feed " + n, house.feed(blank, blank, blank, blank, blank), 20 * n);
            }
            house.cut(over);
            due("nearly full", house.feed(blank, blank, blank, blank, blank), 3000 - over);
            due("no room for 20 more", house.feed(0, 0, 0, 0, 0), FULL);
            due("nothing came", house.cut(0), 3000 - over);
            due("no room again", house.feed(-1, -1, -1, -1, -1), FULL);
            due("what was there stayed", house.problem(0), 1);
            due("room again", house.feed(blank, blank, blank, blank, blank), 20);
        }
        // "var " "x\t-3" "..-1" ";\n\r " "#\377\200\0" : each byte in its place
        SolverHouse house = new SolverHouse();
        due("bytes", house.feed(0x76617220, 0x78092d33, 0x2e2e2d31, 0x3b0a0d20, 0x23ff8000), 20);
        due("in order", house.problem(0), 3);
        for (int place = 0; place < 20; place++) {
            int[] five = {blank, blank, blank, blank, blank};
            five[place / 4] ^= 0xff << 8 * (3 - place % 4);
            due("one stray byte", house.feed(five[0], five[1], five[2], five[3], five[4]), 20);
            due("its fault", house.problem(0), -11);
            due("its place", house.place(), place);
        }
    }

    // Promise 3: "THE TAPE's last n bytes go: how many it has. BAD: there are not so many."

    private static void cutting() {
        SolverHouse house = new SolverHouse();
        int[] never = {-1, -20, LEAST, LEAST + 1, GREATEST, 3001, 41};
        Checks.feed(house, "var x 0..1;         var y 0..1;         ");
        for (int n : never) {
            due("cut(" + n + ")", house.cut(n), BAD);
        }
        due("nothing went", house.cut(0), 40);
        due("cut(1)", house.cut(1), 39);
        due("cut(40) of 39", house.cut(40), BAD);
        due("cut(19)", house.cut(19), 20);
        Checks.feed(house, "var z 0..4;         ");
        due("what came behind", house.problem(0), 10);
        due("cut(1) of nothing", house.cut(1), BAD);
        Checks.feed(house, "var x 0..1;         ");
        due("cut(20) of 20", house.cut(20), 0);
        due("all went", house.problem(0), 1);
        for (int n = 0; n < 150; n++) {
            house.feed(0, 0, 0, 0, 0);
        }
        due("cut(3001) of 3000", house.cut(3001), BAD);
        due("cut(2999) of 3000", house.cut(2999), 1);
        due("cut(2) of 1", house.cut(2), BAD);
        due("cut(1) of 1", house.cut(1), 0);
    }

    // Promise 4: "its SPACE; -10 less the FAULT, FULL when it is LARGE .. BAD: no such p (THE TAPE stays)."

    private static void problems() {
        String[] texts = {"", "var x 0..6;", "$", ";", "cost 0: 1" + Checks.times(199, "+1") + ";", "var x 0..0; var x 0..0;",
            "cost 0: x;", "cost 3: 1;", "var x 1..101; var y 1..199;"};
        int[] want = {1, 7, -11, -12, -13, -14, -15, -16, FULL};
        for (int i = 0; i < texts.length; i++) {
            SolverHouse house = new SolverHouse();
            Checks.feed(house, texts[i]);
            int[] noSuch = {LEAST, -1, 4, GREATEST};
            for (int p : noSuch) {
                due("problem(" + p + ")", house.problem(p), BAD);
                due("the tape stays", house.cut(0), texts[i].length());
            }
            for (int p = 0; p < 4; p++) {
                due("problem(" + p + ") of " + texts[i], house.problem(p), want[i]);
                due("the tape is empty then", house.cut(0), 0);
                due("told " + p, house.told(p, 3, 0), want[i] > 0 ? want[i] : NO);
                Checks.feed(house, texts[i]);
            }
        }
    }

    // "(the one before stays with both)"

    private static void oneBeforeStays() {
        String[] refused = {"$", "var y 0..1; rule y = 5; var y 0..1;", "var y 0..999; var z 0..999; rule y = z;", "rule",
            "table t = 1; var x 5..9; cost 0: 1 / 0; cost 3: 1;"};
        SolverHouse house = CHECKS.house("var x 0..3; table t = 5; rule r: x < 2; soft 1 7: x = 3; cost 2: x;");
        house.plan(0, 0, 3);
        house.pin(0, 0, 1);
        house.turn(0, 1, false);
        due("allowed", house.allowed(0), 1);
        for (String text : refused) {
            due("refused " + text, Checks.read(house, 0, text) < 0 ? 1 : 0, 1);
            due("space", house.told(0, 3, 0), 4);
            due("tables", house.told(0, 1, 0), 1);
            due("items", house.told(0, 2, 0), 3);
            due("pinned", house.told(0, 7, 0), 1);
            due("greatest", house.told(0, 6, 0), 3);
            due("off", house.told(0, 11, 1), 0);
            due("weight", house.told(0, 10, 1), 7);
            due("on", house.told(0, 11, 2), 1);
            due("value", house.value(0, 0), 3);
            due("name of x", house.name(0, 0, 0, 0), 'x');
            due("name of r", house.name(0, 2, 0, 0), 'r');
            due("judge", house.judge(0), 0);
            due("level 1", house.score(1), 0);
            due("level 2", house.score(2), 3);
            due("allowed", house.allowed(0), 1);
            due("having", house.having(0, 0, 1), 1);
            due("core", house.core(0), 0);
        }
    }

    // "in place of the one before (all on, nothing PINNED, nothing told; its plan has all first values)"

    private static void allNew() {
        String text = "var x -2..3; var q[2] 4..5; rule x > 9; soft 0 1: x = 1; cost 0: x;";
        SolverHouse house = new SolverHouse();
        for (int round = 0; round < 3; round++) {
            due("problem(2)", Checks.read(house, 2, text), 24);
            due("none allowed", house.allowed(2), 0);
            for (int k = 0; k < 3; k++) {
                due("on " + k, house.told(2, 11, k), 1);
                due("not pinned " + k, house.told(2, 7, k), NONE);
                due("first value " + k, house.value(2, k), k == 0 ? -2 : 4);
                house.turn(2, k, false);
                house.pin(2, k, k == 0 ? 3 : 5);
                house.plan(2, k, k == 0 ? 3 : 5);
            }
            due("left", house.told(2, 4, 0), 1);
            due("allowed", house.allowed(2), 1);
        }
        due("a smaller one", Checks.read(house, 2, "var y 7..8;"), 2);
        due("no second variable", house.value(2, 1), NONE);
        due("no rules", house.told(2, 2, 0), 0);
        due("no rule", house.turn(2, 0, true), BAD);
        due("its plan", house.value(2, 0), 7);
        due("allowed", house.allowed(2), 2);
        due("a name of it", house.name(2, 0, 0, 0), 'y');
        due("no name of the one before", house.name(2, 0, 1, 0), BAD);
    }

    /** What was a rule, soft or cost in an older text, sound or not, is what the new one tells. */
    private static void newKinds() {
        String[] kinds = {"rule 1 = 2;", "soft 1 5: 1 = 2;", "cost 2: 3;"};
        int[][] want = {{0, 0, 0, 0}, {1, 0, 5, 0}, {1, 0, 0, 3}};
        SolverHouse house = new SolverHouse();
        for (int n = 0; n < 54; n++) {
            Checks.read(house, 0, Checks.times(3, kinds[n % 3]) + (n % 2 == 0 ? "$" : ""));
            int kind = n / 3 % 3;
            due("problem", Checks.read(house, 0, kinds[kind]), 1);
            due("judge of " + kinds[kind], house.judge(0), want[kind][0]);
            for (int level = 0; level < 3; level++) {
                due("level " + level + " of " + kinds[kind], house.score(level), want[kind][level + 1]);
            }
            due("allowed of " + kinds[kind], house.allowed(0), want[kind][0]);
            due("core of " + kinds[kind], house.core(0), 1 - want[kind][0]);
            due("kind of " + kinds[kind], house.told(0, 8, 0), kind);
        }
    }

    // Promise 5: "The place of the latest problem()'s FAULT; NO when it had none, and before."

    private static void places() {
        SolverHouse house = new SolverHouse();
        due("before", house.place(), NO);
        house.problem(7);
        due("before any that was read", house.place(), NO);
        Checks.read(house, 0, "$");
        due("the first byte", house.place(), 0);
        due("asked again", house.place(), 0);
        Checks.read(house, 1, "var x 0..1; ;");
        due("the latest", house.place(), 12);
        Checks.read(house, 0, "var x 0..1;");
        due("none", house.place(), NO);
        Checks.read(house, 0, "var");
        due("the end", house.place(), 3);
        Checks.read(house, 0, "var x 0..999; var y 0..999;");
        due("LARGE is no FAULT", house.place(), NO);
        Checks.read(house, 0, Checks.times(2999, " ") + "$");
        due("the last byte", house.place(), 2999);
        Checks.feed(house, "var x 0..1;");
        house.told(0, 0, 0);
        house.cut(1);
        due("other calls leave it", house.place(), 2999);
    }

    // Promise 6: told

    private static void telling() {
        SolverHouse house = CHECKS.house(MOST);
        int[] all = {12, 8, 16, 64, 64};
        int[] anyK = {LEAST, -1, 0, 11, 12, 99, GREATEST};
        for (int what = 0; what <= 4; what++) {
            for (int k : anyK) {
                due("told " + what, house.told(0, what, k), all[what]);
            }
        }
        int[] noSuch = {LEAST, -2, -1, 12, 13, GREATEST};
        for (int what : noSuch) {
            for (int p = -1; p <= 4; p++) {
                due("told what " + what + " of p " + p, house.told(p, what, 0), BAD);
            }
        }
        for (int what = 5; what <= 11; what++) {
            int most = what <= 7 ? 12 : 16;
            int[] never = {LEAST, -1, most, most + 1, GREATEST};
            for (int k : never) {
                due("told " + what + " of " + k, house.told(0, what, k), BAD);
                due("told " + what + " of no problem", house.told(1, what, k), NO);
            }
        }
        int[][] ends = {{-3, 4, NONE}, {0, 1, NONE}};
        int[] first = {0, 0, 0, 1};
        int[] second = {1, 2, 99, 1};
        int[] cost = {2, 1, 0, 1};
        for (int what = 5; what <= 7; what++) {
            due("told " + what + " of the first", house.told(0, what, 0), ends[0][what - 5]);
            due("told " + what + " of the last", house.told(0, what, 11), ends[1][what - 5]);
        }
        for (int what = 8; what <= 11; what++) {
            due("told " + what + " of a rule", house.told(0, what, 0), first[what - 8]);
            due("told " + what + " of a soft", house.told(0, what, 13), second[what - 8]);
            due("told " + what + " of a cost", house.told(0, what, 14), cost[what - 8]);
            due("told " + what + " of the last", house.told(0, what, 15), first[what - 8]);
        }
        house = CHECKS.house("");
        for (int what = 0; what <= 11; what++) {
            due("told " + what + " of an empty problem", house.told(0, what, 0), what < 3 ? 0 : what < 5 ? 1 : BAD);
        }
        leftOnes();
    }

    /** "4 how many plans are left by what is PINNED", "7 what it is PINNED to (10000: nothing)" */
    private static void leftOnes() {
        SolverHouse house = CHECKS.house("var x 1..100; var y 1..199; var z 0..0;");
        due("all", house.told(0, 4, 0), 19900);
        house.pin(0, 1, 199);
        due("y pinned", house.told(0, 4, 0), 100);
        house.pin(0, 2, 0);
        due("y, z pinned", house.told(0, 4, 0), 100);
        due("z to 0", house.told(0, 7, 2), 0);
        house.pin(0, 0, 1);
        due("all pinned", house.told(0, 4, 0), 1);
        house.pin(0, 1, 200);
        due("y free again", house.told(0, 4, 0), 199);
        due("y to nothing", house.told(0, 7, 1), NONE);
        due("x still", house.told(0, 7, 0), 1);
        due("space", house.told(0, 3, 0), 19900);
    }

    // Promise 7: "Byte i of the NAME .. BAD: none such, or no NAME; NO: no such problem."

    private static void spelt(SolverHouse house, int sort, int k, String name) {
        for (int i = 0; i < name.length(); i++) {
            due("name " + sort + " " + k + " " + i, house.name(0, sort, k, i), name.charAt(i));
        }
        int[] never = {LEAST, -1, name.length(), name.length() + 1, 8, 9, 64, GREATEST};
        for (int i : never) {
            due("name " + sort + " " + k + " " + i, house.name(0, sort, k, i), BAD);
            due("name of no problem", house.name(2, sort, k, i), sort < 0 || sort > 2 ? BAD : NO);
            due("name of p 4", house.name(4, sort, k, i), BAD);
        }
    }

    private static void naming() {
        SolverHouse house = CHECKS.house(MOST);
        spelt(house, 0, 0, "x");
        spelt(house, 0, 1, "q");
        spelt(house, 0, 8, "q");
        spelt(house, 0, 11, "r");
        spelt(house, 1, 0, "a");
        spelt(house, 1, 7, "Eightlet");
        spelt(house, 2, 0, "first");
        spelt(house, 2, 15, "lastrule");
        int[][] never = {{0, -1}, {0, 12}, {0, LEAST}, {0, GREATEST}, {1, -1}, {1, 8}, {1, GREATEST}, {2, -1}, {2, 16}, {2, 1},
            {2, 14}, {2, LEAST}, {-1, 0}, {3, 0}, {LEAST, 0}, {GREATEST, 0}};
        for (int[] none : never) {
            spelt(house, none[0], none[1], "");
        }
        house = CHECKS.house("rule 1 = 1; rule Z9z9z9z9: 1 = 1;");
        spelt(house, 2, 0, "");
        spelt(house, 2, 1, "Z9z9z9z9");
    }

    // Promise 8: turn

    private static void turning() {
        SolverHouse house = CHECKS.house(MOST);
        int[] never = {LEAST, -1, 16, 17, 31, 32, 33, GREATEST};
        for (int k : never) {
            due("turn " + k, house.turn(0, k, false), BAD);
            due("turn " + k, house.turn(0, k, true), BAD);
            due("turn of no problem", house.turn(1, k, true), NO);
        }
        for (int k = 0; k < 16; k++) {
            due("still on", house.told(0, 11, k), 1);
        }
        for (int k = 0; k < 16; k++) {
            due("on to on", house.turn(0, k, true), 1);
            due("on to off", house.turn(0, k, false), 1);
            due("off to off", house.turn(0, k, false), 0);
            for (int other = 0; other < 16; other++) {
                due("the others", house.told(0, 11, other), other == k ? 0 : 1);
            }
            due("off to on", house.turn(0, k, true), 0);
        }
    }

    // Promise 9: "1; 0 when v is not in its range (it is not PINNED then any more). BAD: no such variable"

    private static void pinning() {
        int[] outside = {LEAST, -10000, -1000, -4, 5, 999, 1000, 10000, GREATEST};
        SolverHouse house = CHECKS.house(MOST);
        for (int v = -3; v <= 4; v++) {
            due("pin to " + v, house.pin(0, 0, v), 1);
            due("pinned to " + v, house.told(0, 7, 0), v);
            due("its plan stays", house.value(0, 0), -3);
        }
        for (int v : outside) {
            house.pin(0, 0, 4);
            due("pin to " + v, house.pin(0, 0, v), 0);
            due("not pinned", house.told(0, 7, 0), NONE);
            due("pin to " + v + " again", house.pin(0, 0, v), 0);
            due("left", house.told(0, 4, 0), 64);
        }
        int[] never = {LEAST, -1, 12, 13, GREATEST};
        house.pin(0, 11, 1);
        for (int k : never) {
            due("pin of variable " + k, house.pin(0, k, 0), BAD);
            due("pin of variable " + k + " of no problem", house.pin(3, k, 0), NO);
        }
        due("the last stays pinned", house.told(0, 7, 11), 1);
        house = CHECKS.house("var x -999..999;");
        due("pin to -999", house.pin(0, 0, -999), 1);
        due("pinned to -999", house.told(0, 7, 0), -999);
        due("pin to 999", house.pin(0, 0, 999), 1);
        due("pinned to 999", house.told(0, 7, 0), 999);
        due("pin to 1000", house.pin(0, 0, 1000), 0);
        due("pin to -1000", house.pin(0, 0, -1000), 0);
    }

    // Promises 10 and 11: "BAD: no such variable, or value of its range"; "10000: none such."

    private static void planning() {
        SolverHouse house = CHECKS.house(MOST);
        for (int v = -3; v <= 4; v++) {
            due("plan " + v, house.plan(0, 0, v), 1);
            due("value " + v, house.value(0, 0), v);
        }
        int[] outside = {LEAST, -1000, -4, 5, 1000, 10000, GREATEST};
        for (int v : outside) {
            due("plan " + v, house.plan(0, 0, v), BAD);
            due("the plan stays", house.value(0, 0), 4);
        }
        int[] never = {LEAST, -1, 12, 13, GREATEST};
        for (int k : never) {
            due("plan of variable " + k, house.plan(0, k, 0), BAD);
            due("plan of variable " + k + " of no problem", house.plan(1, k, 0), NO);
            due("value of variable " + k, house.value(0, k), NONE);
            due("value of variable " + k + " of no problem", house.value(1, k), NONE);
        }
        due("plan of the last", house.plan(0, 11, 1), 1);
        for (int k = 1; k <= 11; k++) {
            due("value of " + k, house.value(0, k), k == 11 ? 1 : 0);
        }
        due("plan of the last to 2", house.plan(0, 11, 2), BAD);
        house.pin(0, 0, -3);
        due("a pin leaves it", house.value(0, 0), 4);
        due("and it a pin", house.plan(0, 0, 3), 1);
        due("pinned still", house.told(0, 7, 0), -3);
    }

    // Promise 12: "1 it is ALLOWED, 0 it is not, 2 it FAILS"

    private static void judging() {
        SolverHouse house = CHECKS.house("var x -1..2; rule 2 / x > 0; rule x < 2;");
        int[] want = {0, 2, 1, 0};
        for (int x = -1; x <= 2; x++) {
            house.plan(0, 0, x);
            due("judge of " + x, house.judge(0), want[x + 1]);
            due("the plan stays", house.value(0, 0), x);
        }
        house.turn(0, 1, false);
        due("judge with it off", house.judge(0), 1);
        house.pin(0, 0, -1);
        due("judge for all pins", house.judge(0), 1);
        due("judge of an empty problem", CHECKS.house("").judge(0), 1);
    }

    // Promise 13: "BAD; NO: there was none."

    private static void scoring() {
        SolverHouse house = CHECKS.house("var x 0..3; cost 0: 11; rule x > 0; cost 1: 12; rule 4 / (x - 1) > 0; rule x = 3; cost 2: x;");
        int[] never = {LEAST, -2, -1, 5, 6, GREATEST};
        for (int what : never) {
            due("score(" + what + ") before", house.score(what), BAD);
        }
        due("score(0) before", house.score(0), NO);
        due("score(4) before", house.score(4), NO);
        int[][] want = {{0, 11, 12, 0, 1, 3}, {2, 0, 0, 0, 3, 0}, {0, 11, 12, 2, 4, 1}, {1, 11, 12, 3, NO, 0}};
        for (int x = 0; x < 4; x++) {
            house.plan(0, 0, x);
            due("judge of " + x, house.judge(0), want[x][0]);
            for (int what = 0; what <= 4; what++) {
                due("score(" + what + ") of " + x, house.score(what), want[x][what + 1]);
            }
            for (int what : never) {
                due("score(" + what + ") of " + x, house.score(what), BAD);
            }
        }
        house.plan(0, 0, 0);
        house.turn(0, 1, false);
        house.judge(0);
        due("the first that is on", house.score(3), 3);
        due("those that are on", house.score(4), 2);
        String all = Checks.times(16, "rule 1 = 2;");
        house = CHECKS.house(all);
        due("judge of sixteen", house.judge(0), 0);
        due("the first of sixteen", house.score(3), 0);
        due("sixteen broken", house.score(4), 16);
        for (int k = 0; k < 15; k++) {
            house.turn(0, k, false);
        }
        house.judge(0);
        due("the last of sixteen", house.score(3), 15);
        due("one broken", house.score(4), 1);
        house = CHECKS.house(Checks.times(15, "rule 1 = 2;") + "cost 0: 1 / 0;");
        due("the last fails", house.judge(0), 2);
        due("the one that failed", house.score(3), 15);
    }

    /** "Of the latest judge() (of any problem)": what judged nothing, and all that changes later, leave it. */
    private static void scoresStay() {
        SolverHouse house = CHECKS.house("var x 1..3; rule x > 2; cost 0: x; cost 1: 7;");
        Checks.read(house, 1, "cost 2: 5;");
        house.judge(1);
        due("of problem 1", house.score(2), 5);
        house.judge(0);
        int[] want = {1, 7, 0, 0, 1};
        house.plan(0, 0, 2);
        house.turn(0, 0, false);
        house.judge(2);
        house.judge(-1);
        house.judge(4);
        house.best(2);
        house.best(9);
        house.nearest(0);
        house.allowed(0);
        house.front(0, 0, 1);
        house.core(0);
        house.settled(0);
        house.having(0, 0, 1);
        Checks.read(house, 0, "$");
        Checks.read(house, 0, "");
        for (int what = 0; what <= 4; what++) {
            due("score(" + what + ") stays", house.score(what), want[what]);
        }
    }

    // Promise 14: "how many BEST plans there are; 0 when none is ALLOWED (the plan stays). score() is told of it then"

    private static void best() {
        SolverHouse house = CHECKS.house("var x 0..5; rule x > 1; cost 1: x / 2;");
        due("best", house.best(0), 2);
        due("the first", house.value(0, 0), 2);
        due("score of it", house.score(1), 1);
        due("nothing broken", house.score(3), NO);
        due("none broken", house.score(4), 0);
        house.plan(0, 0, 0);
        house.judge(0);
        due("judged", house.score(4), 1);
        due("best again", house.best(0), 2);
        due("told again", house.score(4), 0);
        house.pin(0, 0, 1);
        due("none", house.best(0), 0);
        due("the plan stays", house.value(0, 0), 2);
        due("score stays", house.score(1), 1);
        due("all alike", CHECKS.house("var x 1..100; var y 1..200;").best(0), 20000);
        due("an empty problem", CHECKS.house("").best(0), 1);
        SolverHouse none = CHECKS.house("var x 0..1; rule x = 2;");
        due("best of none", none.best(0), 0);
        due("nothing was judged", none.score(0), NO);
        SolverHouse last = CHECKS.house("var x 1..100; var y 1..200; cost 0: -x; cost 1: -y;");
        due("the last plan", last.best(0), 1);
        due("its x", last.value(0, 0), 100);
        due("its y", last.value(0, 1), 200);
        due("its score", last.score(1), -200);
    }

    // Promises 15 and 16: none, one, all but one, all

    private static void allowedAndFails() {
        String head = "var x 1..100; var y 1..200;";
        String[] rules = {"", "rule x > 100;", "rule x = 1 and y = 1;", "rule x = 100 and y = 200;", "rule x < 100 or y < 200;"};
        int[] want = {20000, 0, 1, 1, 19999};
        for (int i = 0; i < rules.length; i++) {
            SolverHouse house = CHECKS.house(head + rules[i]);
            due("allowed of " + rules[i], house.allowed(0), want[i]);
            due("fails of " + rules[i], house.fails(0), 0);
        }
        String[] costs = {"cost 0: 1 / 0;", "cost 0: 1 / (x - 100);", "cost 0: 1 / (x + y - 300);", "cost 0: 1 / (x + y - 2);"};
        int[] fail = {20000, 200, 1, 1};
        for (int i = 0; i < costs.length; i++) {
            SolverHouse house = CHECKS.house(head + costs[i]);
            due("fails of " + costs[i], house.fails(0), fail[i]);
            due("allowed of " + costs[i], house.allowed(0), 20000 - fail[i]);
            house.turn(0, 0, false);
            due("fails of " + costs[i] + " off", house.fails(0), fail[i]);
        }
        due("allowed of an empty problem", CHECKS.house("").allowed(0), 1);
        due("fails of an empty problem", CHECKS.house("").fails(0), 0);
        due("allowed of an empty problem with a rule", CHECKS.house("rule 1 = 2;").allowed(0), 0);
        due("fails of an empty problem with a cost", CHECKS.house("cost 0: 1 / 0;").fails(0), 1);
    }

    // Promise 17: "BAD: no such p, levels, or a is b; NO: no such problem."

    private static void fronts() {
        SolverHouse house = CHECKS.house("var x 0..2; cost 0: x; cost 1: 2 - x; cost 2: x * x;");
        int[] levels = {LEAST, -1, 0, 1, 2, 3, GREATEST};
        int[][] want = {{BAD, 3, 1}, {3, BAD, 3}, {1, 3, BAD}};
        for (int a : levels) {
            for (int b : levels) {
                boolean fit = a >= 0 && a < 3 && b >= 0 && b < 3;
                due("front " + a + " " + b, house.front(0, a, b), fit ? want[a][b] : BAD);
                due("front of no problem " + a + " " + b, house.front(1, a, b), fit && a != b ? NO : BAD);
                due("front of p 4", house.front(4, a, b), BAD);
                due("front of p -1", house.front(-1, a, b), BAD);
            }
        }
        due("front of none", CHECKS.house("rule 1 = 2;").front(0, 0, 1), 0);
        due("front of an empty problem", CHECKS.house("").front(0, 2, 1), 1);
    }

    // Promise 18: "Of pair i of the latest front() that told a number .. 10000000: none such."

    private static void pairsStay() {
        SolverHouse house = CHECKS.house("var x 0..2; cost 0: x; cost 1: 2 - x;");
        Checks.read(house, 1, "rule 1 = 2;");
        due("front", house.front(0, 0, 1), 3);
        house.front(0, 1, 1);
        house.front(0, 3, 1);
        house.front(2, 0, 1);
        house.front(7, 0, 1);
        house.turn(0, 0, false);
        house.pin(0, 0, 1);
        Checks.read(house, 0, "");
        int[] never = {LEAST, -1, 3, 4, GREATEST};
        int[] neither = {LEAST, -1, 2, 3, GREATEST};
        for (int i = 0; i < 3; i++) {
            due("first of " + i, house.pair(i, 0), i);
            due("second of " + i, house.pair(i, 1), 2 - i);
            for (int which : neither) {
                due("which " + which, house.pair(i, which), NO_PAIR);
            }
        }
        for (int i : never) {
            due("pair " + i, house.pair(i, 0), NO_PAIR);
            due("pair " + i, house.pair(i, 1), NO_PAIR);
        }
        due("a front of none told a number", house.front(1, 0, 1), 0);
        due("no pair", house.pair(0, 0), NO_PAIR);
        due("no pair", house.pair(0, 1), NO_PAIR);
    }

    // Promise 19: "its rules as bits (rule, soft or cost k: 2^k ..). 0 also when some plan is ALLOWED, or all FAIL."

    private static void cores() {
        for (int k = 0; k < 16; k++) {
            String text = Checks.times(k, "rule 1 = 1;") + "rule 1 = 2;" + Checks.times(15 - k, "cost 0: 1;");
            due("core of rule " + k, CHECKS.house(text).core(0), 1 << k);
            text = Checks.times(k, "soft 0 1: 1 = 2;") + "rule 1 = 2;" + Checks.times(15 - k, "rule 1 = 2;");
            due("core of the first rule " + k, CHECKS.house(text).core(0), 1 << k);
        }
        StringBuilder all = new StringBuilder("var x 1..16;");
        for (int k = 1; k <= 16; k++) {
            all.append("rule x != ").append(k).append(";");
        }
        SolverHouse house = CHECKS.house(all.toString());
        due("all sixteen", house.core(0), 65535);
        house.turn(0, 15, false);
        due("some plan is allowed", house.core(0), 0);
        house.pin(0, 0, 3);
        due("only one plan counts", house.core(0), 4);
        house.turn(0, 2, false);
        due("and is allowed", house.core(0), 0);
        due("all fail", CHECKS.house("var x 0..1; rule x = 3; rule 1 / 0 = 1;").core(0), 0);
        due("an empty problem", CHECKS.house("").core(0), 0);
    }

    // Promise 20: "how many variables changed .. NO: no such problem, or none is ALLOWED (the plan stays)."

    private static void nearest() {
        String head = "var q[8] 0..1; var r[4] 0..1;";
        for (int n = 0; n <= 12; n++) {
            SolverHouse house = CHECKS.house(head + "rule sum(q, r) = " + n + ";");
            due("nearest with " + n, house.nearest(0), n);
            int sum = 0;
            for (int k = 0; k < 12; k++) {
                sum += house.value(0, k);
                due("the last ones change", house.value(0, k), k < 12 - n ? 0 : 1);
            }
            due("sum", sum, n);
            due("nearest to itself", house.nearest(0), 0);
        }
        SolverHouse house = CHECKS.house(head + "rule sum(q, r) = 13;");
        house.plan(0, 11, 1);
        due("none", house.nearest(0), NO);
        due("the plan stays", house.value(0, 11), 1);
        due("nearest of an empty problem", CHECKS.house("").nearest(0), 0);
        due("none in an empty problem", CHECKS.house("rule 1 = 2;").nearest(0), NO);
    }

    // Promise 21: "Which variables are SETTLED, as bits (2^k); 0 also when none is ALLOWED."

    private static void settled() {
        for (int k = 0; k < 12; k++) {
            SolverHouse house = CHECKS.house("var q[8] 0..1; var r[4] 0..1;");
            due("none settled", house.settled(0), 0);
            house.pin(0, k, k % 2);
            due("settled by a pin", house.settled(0), 1 << k);
        }
        due("all settled", CHECKS.house("var q[8] 0..0; var r[4] 0..0;").settled(0), 4095);
        due("none allowed", CHECKS.house("var q[8] 0..0; rule 1 = 2;").settled(0), 0);
        due("all fail", CHECKS.house("var q[8] 0..0; rule 1 / 0 = 2;").settled(0), 0);
        due("settled of an empty problem", CHECKS.house("").settled(0), 0);
    }

    // Promise 22: "BAD: no such variable, value; NO: no such problem."

    private static void having() {
        SolverHouse house = CHECKS.house("var x -3..4; var r[3] 0..1; rule x < 4; rule x + sum(r) < 4;");
        // With x = 1, 2, 3 the sums of r are below 3, 2, 1.
        int[] want = {8, 8, 8, 8, 7, 4, 1, 0};
        int sum = 0;
        for (int v = -3; v <= 4; v++) {
            due("having " + v, house.having(0, 0, v), want[v + 3]);
            sum += want[v + 3];
        }
        due("together", house.allowed(0), sum);
        due("the last variable", house.having(0, 3, 0) + house.having(0, 3, 1), sum);
        int[] outside = {LEAST, -1000, -4, 5, 1000, 10000, GREATEST};
        for (int v : outside) {
            due("having " + v, house.having(0, 0, v), BAD);
        }
        int[] never = {LEAST, -1, 4, 12, GREATEST};
        for (int k : never) {
            due("having of variable " + k, house.having(0, k, 0), BAD);
            due("having of no problem", house.having(1, k, 0), NO);
        }
        due("having all", CHECKS.house("var x 1..100; var y 1..200; var z 0..0;").having(0, 2, 0), 20000);
    }

    // "An object is used for at most 512 calls after it has been made"

    private static void manyCalls() {
        SolverHouse house = new SolverHouse();
        int calls = 0;
        Checks.feed(house, "var x 0..9; cost 0:x;");
        calls += 3;
        due("problem", house.problem(0), 10);
        calls++;
        for (int n = 0; calls < 511; n++) {
            int v = n % 10;
            due("pin", house.pin(0, 0, v), 1);
            due("best", house.best(0), 1);
            due("score", house.score(0), v);
            calls += 3;
        }
        for (; calls < 512; calls++) {
            due("the last call", house.value(0, 0) >= 0 ? 1 : 0, 1);
        }
        house = new SolverHouse();
        for (int n = 0; n < 102; n++) {
            house.feed(0x76617220, 0x7820302e, 0x2e373b20, 0x20202020, 0x20202020);
            due("problem " + n, house.problem(n % 4), 8);
            due("place " + n, house.place(), NO);
            due("allowed " + n, house.allowed(n % 4), 8);
            due("front " + n, house.front(n % 4, 0, 2), 1);
        }
        due("call 511", house.pair(0, 0), 0);
        due("call 512", house.pair(1, 0), NO_PAIR);
    }
}
