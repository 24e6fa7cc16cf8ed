/** Promises 4 and 5: what is read, and each fault with its place. */
public final class FaultTest {
    private static final Checks CHECKS = new Checks();

    public static void main(String[] args) {
        strays();
        order();
        tooMuch();
        tokens401();
        sweep401();
        depth();
        again();
        none();
        numbers();
        alone();
        ahead();
        problems();
        nothingStays();
        CHECKS.end();
    }

    private static void fault(int kind, String marked) {
        CHECKS.fault(kind, marked);
    }

    private static void fine(String text, int space) {
        CHECKS.fine(text, space);
    }

    private static String times(int n, String text) {
        return Checks.times(n, text);
    }

    private static void strays() {
        fault(1, "^$");
        fault(1, "var ^_x 0..1;");
        fault(1, "var x 0^.1;");
        fault(1, "var x 0..^.1;");
        fault(1, "var ^abcdefghi 0..1;");
        fine("var abcdefgh 0..1;", 2);
        fine("var AZaz09 0..1; var BYby18 0..1;", 4);
        String signs = "+-*/()[]{},;:=<>|";
        for (char b = 0; b < 256; b++) {
            boolean blank = b == 9 || b == 10 || b == 13 || b == 32 || b == '#';
            boolean letter = b >= 'A' && b <= 'Z' || b >= 'a' && b <= 'z';
            boolean token = letter || b >= '0' && b <= '9' || signs.indexOf(b) >= 0;
            SolverHouse house = new SolverHouse();
            int answer = Checks.read(house, 0, "var x 0..1;\t" + b);
            CHECKS.due("byte " + (int) b, answer, blank ? 2 : token ? -12 : -11);
            CHECKS.due("place of byte " + (int) b, house.place(), blank ? -2 : 12);
        }
        fine("var a1B2c3D4 0..1;", 2);
        fault(1, "var ^distincts 0..1;");
        fault(1, "var x ^00001..1;");
        fine("var x 0000..0001;", 2);
        fault(1, "var x 0..1; rule x ^!1;");
        fault(1, "var x 0..1; rule x ^\0= 1;");
        fine("var x 0..1;#rule $ ' _\n\trule x=1;\r#", 2);
        fine("var x 0..1;rule 1=1or x=1and 2mod x=0;", 2);
    }

    private static void order() {
        fault(2, "^;");
        fault(2, "^x");
        fault(2, "var^");
        fault(2, "var x 0..1   ^");
        fault(2, "var x 0..1; # no more\nvar ^");
        fault(2, "var ^in 0..1;");
        fault(2, "var ^1 0..1;");
        fault(2, "var x[^-1] 0..1;");
        fault(2, "var x[2 ^0..1;");
        fault(2, "var x[2] ^x..1;");
        fault(2, "var x - ^-1..1;");
        fine("var x - 1..-\n0;", 2);
        fault(2, "var x 0 ^, 1;");
        fault(2, "table t ^1;");
        fault(2, "table t = 1 ^2;");
        fault(2, "table t = 1 | ^| 2;");
        fault(2, "table t = 1, 2 | 3^");
        fault(2, "rule ^;");
        fault(2, "rule 1 ^;");
        fault(2, "rule 1 = ^;");
        fault(2, "rule 1 = 1 ^= 1;");
        fault(2, "rule a: ^: 1 = 1;");
        fault(2, "rule 1^: 1 = 1;");
        fault(2, "rule (1 ^= 1);");
        fault(2, "rule {1 ^};");
        fault(2, "rule {1 = 1^);");
        fault(2, "rule 1 = 1 -> ^;");
        fault(2, "rule 1 = 1 and ^or 1 = 1;");
        fault(2, "rule not ^;");
        fault(2, "rule distinct^;");
        fault(2, "rule distinct(^);");
        fault(2, "rule distinct(1, ^);");
        fault(2, "rule distinct(1 ^| 1);");
        fault(2, "rule distinct(1) ^= 1;");
        fault(2, "rule fits(^);");
        fault(2, "rule fits(1^);");
        fault(2, "rule fits(1, 1^);");
        fault(2, "rule fits(1 ^| 1);");
        fault(2, "rule fits(1, 1 ^| 1);");
        fault(2, "rule fits(1, 1, 1 ^);");
        fault(2, "rule fits(1, 1, 1 ^, 1);");
        fault(2, "rule fits(1, 1, 1 | 1 ^| 1);");
        fault(2, "rule fits(1, 1, 1 | 1, 1 ^);");
        fault(2, "rule fits(1, 1, 1 | ^);");
        fine("rule fits(1, 1, 1 | 2, 2, 2 | 3);", 1);
        fault(2, "rule in ^(1);");
        fault(2, "table t = 1; rule in t ^1;");
        fault(2, "table t = 1; cost 0: t[^];");
        fault(2, "table t = 1; cost 0: t[0^;");
        fault(2, "soft 0 ^: 1 = 1;");
        fault(2, "soft 0 1 ^1 = 1;");
        fault(2, "soft ^a: 1 = 1;");
        fault(2, "cost ^: 1;");
        fault(2, "cost 0: 1 ^= 1;");
        fault(2, "cost 0: ^+ 1;");
        fault(2, "cost 0: 1 ^-> 1;");
        fault(2, "cost 0: 1 mod ^;");
        fault(2, "cost 0: abs ^1;");
        fault(2, "cost 0: abs(1 ^, 1);");
        fault(2, "cost 0: min(1 ^| 1);");
        fault(2, "cost 0: count(1 ^);");
        fault(2, "cost 0: count(1 | 1 ^, 1);");
        fault(2, "cost 0: ^not 1;");
        fault(2, "cost 0: ^distinct(1);");
        fault(2, "cost 0: 1; ^cost0: 1;");
    }

    private static void tooMuch() {
        fault(3, "var x[8] 0..0; var y[4] 0..0; var ^z 0..1;");
        fault(3, "var x[8] 0..0; var ^y[5] 0..0;");
        fault(3, "var x[8] 0..0; var y[4] 0..0; var ^x 0..1;");
        fine("var x[8] 0..1; var y[4] 0..0;", 256);
        fine(tables(8), 1);
        fault(3, tables(8) + "^table i = 1;");
        fault(3, "table t = " + times(24, "1, ") + "^-1, 1;");
        fault(3, "table t = " + times(12, "1, 2 | ") + "^1, 2;");
        fine("table t = " + times(11, "1, 2 | ") + "1, 2;", 1);
        fine(times(16, "rule 1 = 1;"), 1);
        fault(3, times(16, "rule 1 = 1;") + "^rule 1 = 1;");
        fault(3, times(8, "rule 1 = 1; cost 0: 1;") + "^soft 0 1: 1 = 1;");
        fault(3, times(8, "rule 1 = 1; soft 0 1: 1 = 1;") + "^cost 0: 1;");
    }

    private static String tables(int n) {
        StringBuilder all = new StringBuilder();
        for (int i = 0; i < n; i++) {
            all.append("table ").append((char) ('a' + i)).append(" = 1;");
        }
        return all.toString();
    }

    /** A text of an even number of tokens that ends behind an exp. */
    private static String tokens(int n) {
        return "cost 0: 1" + times((n - 4) / 2, "+1");
    }

    private static void tokens401() {
        fine(tokens(398) + ";", 1);
        fine(tokens(398).replace(":", ":-") + ";", 1);
        fault(3, tokens(400) + "^;");
        fault(3, tokens(400) + "^+1;");
        fault(2, tokens(400) + "^)");
        fault(2, tokens(400) + "^");
        fault(1, tokens(400) + "^$");
        fault(3, tokens(396) + "; cost 0: ^1;");
        fault(3, tokens(396) + "; cost 0: ^x;");
        fault(3, tokens(396) + "; var x 0 ^..");
        fault(3, tokens(396) + "; var x[^2]");
        fault(3, tokens(396) + "; cost 0: ^-;");
        fault(2, tokens(396) + "; var x ^..");
        fault(3, tokens(398).replace(":", ":-") + ";^var");
        fault(2, tokens(398).replace(":", ":-") + ";^;");
    }

    /** Each token of these items in turn is the 401st. */
    private static void sweep401() {
        String[] items = {
            "var x [ 2 ] - 3 .. - 1 ;", "table u = - 1 , 2 | 3 , - 4 ;", "rule r : not { 1 = 1 } and 1 != 2 or 1 < 2 -> 1 > 2 ;",
            "soft 1 2 : distinct ( q , 1 ) and ordered ( q ) and circuit ( 1 ) ;",
            "rule fits ( 1 , 2 , 3 | 4 , 5 , 6 | 7 ) and in t ( 1 , 2 ) ;", "cost 0 : q [ 1 ] + t [ 0 ] - w [ 0 , 0 ] ;",
            "cost 2 : min ( 1 , q ) * max ( q ) / sum ( q , 1 ) mod abs ( - 1 ) + count ( q , 1 | 2 ) - ( 1 ) ;"
        };
        String head = "var q [ 2 ] 0 .. 1 ; table t = 1 , 2 ; table w = 1 | 2 ; ";
        int before = head.split(" ").length;
        for (String item : items) {
            String[] tokens = item.split(" ");
            StringBuilder done = new StringBuilder();
            for (int i = 0; i < tokens.length; i++) {
                String text = head + filler(400 - before - i) + done;
                fault(3, text + "^" + item.substring(done.length()));
                done.append(tokens[i]).append(' ');
            }
            fine(head + filler(400 - before - tokens.length) + item, item.startsWith("var") ? 36 : 4);
        }
    }

    /** A cost of so many tokens. */
    private static String filler(int n) {
        int odd = (n - 5) % 2;
        return "cost 0 : " + times(odd, "-") + "1" + times((n - 5) / 2, "+1") + "; ";
    }

    private static void depth() {
        String[] open = {"(", "-", "abs(", "min(", "sum(", "count("};
        for (String sign : open) {
            fault(3, "cost 0: " + times(13, sign) + "^1");
            fault(3, "cost 0: " + times(13, sign) + "^;");
            fault(1, "cost 0: " + times(13, sign) + "^$");
        }
        fine("cost 0: " + times(12, "(") + "1" + times(12, ")") + ";", 1);
        fine("cost 0: " + times(12, "-") + "1;", 1);
        fine("cost 0: " + times(6, "(-") + "1" + times(6, ")") + ";", 1);
        fine("rule " + times(12, "not ") + "1 = 1;", 1);
        fault(3, "rule " + times(13, "not ") + "^1 = 1;");
        fault(3, "rule " + times(13, "not ") + "^distinct(1);");
        fine("rule " + times(11, "not ") + "distinct(1);", 1);
        fine("rule " + times(12, "{") + "1 = 1" + times(12, "}") + ";", 1);
        fault(3, "rule " + times(13, "{") + "^1 = 1;");
        fault(3, "rule " + times(6, "{not ") + "{^not 1 = 1;");
        fault(3, "rule " + times(12, "{") + "(^1) = 1;");
        fault(3, "rule " + times(12, "{") + "distinct(^1);");
        fault(3, "rule " + times(12, "{") + "fits(^1, 1, 1 | 1);");
        fault(3, "table t = 1; rule " + times(12, "{") + "in t (^1);");
        fault(3, "table t = 1; rule " + times(12, "{") + "t[^0] = 1;");
        fault(3, "var q[2] 0..1; rule " + times(12, "{") + "distinct(^q);");
        fine("var q[2] 0..1; rule " + times(11, "{") + "distinct(q)" + times(11, "}") + ";", 4);
        fine("var q[2] 0..1; cost 0: " + times(12, "q[") + "0" + times(12, "]") + ";", 4);
        fault(3, "var q[2] 0..1; cost 0: " + times(13, "q[") + "^0" + times(13, "]") + ";");
        fault(2, "cost 0: " + times(12, "(") + "^)");
        fault(3, "cost 0: " + times(13, "(") + "^)");
        fault(5, "cost 0: " + times(12, "(") + "^x");
        fault(3, "cost 0: " + times(13, "(") + "^x");
        fine("cost 0: 1" + times(13, "-1") + ";", 1);
    }

    private static void again() {
        fault(4, "var x 0..1; var ^x 0..1;");
        fault(4, "var x 0..1; table ^x = 1;");
        fault(4, "var x 0..1; rule ^x: x = 1;");
        fault(4, "table x = 1; var ^x 0..1;");
        fault(4, "table x = 1; table ^x = 1;");
        fault(4, "table x = 1; rule ^x: 1 = 1;");
        fault(4, "rule x: 1 = 1; var ^x 0..1;");
        fault(4, "rule x: 1 = 1; table ^x = 1;");
        fault(4, "rule x: 1 = 1; rule ^x: 1 = 1;");
        fault(4, "var x[3] 0..1; var ^x[3] 0..1;");
        fine("var x 0..1; var X 0..1; var xx 0..1; var x1 0..1;", 16);
    }

    private static void none() {
        fault(5, "rule ^x = 1;");
        fault(5, "rule a: 1 = 1; rule ^a = 1;");
        fault(5, "rule a: ^a = 1;");
        fault(5, "rule ^x[0] = 1; var x[2] 0..1;");
        fault(5, "var q[2] 0..1; rule ^q = 1;");
        fault(5, "var q[2] 0..1; rule 1 = ^q;");
        fault(5, "var x 0..1; rule ^x[0] = 1;");
        fault(5, "table t = 1; rule ^t = 1;");
        fault(5, "table t = 1; rule distinct(^t);");
        fault(5, "rule in ^t (1);");
        fault(5, "var q[2] 0..1; rule in ^q (1);");
        fault(5, "rule r: 1 = 1; rule in ^r (1);");
        fault(5, "table t = 1; cost 0: t[^y];");
    }

    private static void numbers() {
        fault(6, "var x[^0] 0..1;");
        fault(6, "var x[^9] 0..1;");
        fault(6, "var x[^9999");
        fine("var x[1] 0..1;", 2);
        fault(6, "var x ^1000..5;");
        fault(6, "var x ^1000..1001;");
        fault(6, "var x ^9999..1000;");
        fault(6, "var x[3] ^1000 .. - 5;");
        fault(6, "var x ^-1000..0;");
        fault(6, "var x ^-1000..-1001;");
        fault(6, "var x ^- 1000;");
        fault(6, "var x ^1000;");
        fault(6, "var x ^1000");
        fault(6, "var x ^1000$..5;");
        fault(6, "var x ^1000\0\0\0");
        fault(6, "var x ^1000..$");
        fault(6, "var x ^1000..99999;");
        fault(6, "var x ^-1000$");
        fault(2, "var x 999^;");
        fault(2, "var x 999..-^;");
        fault(1, "var x 999^$..5;");
        fault(1, "var x 999..^99999;");
        fault(1, "var x ^10000..5;");
        fault(6, "var x 0..^1000;");
        fault(6, "var x -5..^-1000;");
        fault(6, "var x 3..^2;");
        fault(6, "var x -3..^- 4;");
        fault(6, "var x 3..^2$");
        fine("var x -999..999; var y -5..4;", 19990);
        fault(6, "soft ^3 1: 1 = 1;");
        fault(6, "soft 2 ^0: 1 = 1;");
        fault(6, "soft 2 ^100: 1 = 1;");
        fine("soft 2 99: 1 = 1; soft 0 1: 1 = 1;", 1);
        fault(6, "cost ^3: 1;");
        fault(6, "table t = 1, 2 | ^3;");
        fault(6, "table t = 1 | ^-3, 4 | 5;");
        fault(6, "table t = 1 | ^-3, 4 |");
        fault(2, "table t = 1 | -3, 4 ^:");
        fault(6, "table t = 1, 2; cost 0: t^[0, 1];");
        fault(6, "table t = 1 | 2; cost 0: t^[0];");
        fault(6, "table t = 1 | 2; cost 0: t^[0, 1, 2];");
        fault(6, "var q[2] 0..1; cost 0: q^[0, 1];");
        fault(6, "table t = 1, 2; rule in t ^(1);");
        fault(6, "table t = 1, 2; rule in t ^(1, 2, 3);");
        fault(6, "var q[2] 0..1; table t = 1, 2; rule in t ^(q, 1);");
        fine("var q[2] 0..1; table t = 1, 2; rule in t (q);", 4);
        fine("table t = 1 | 2; cost 0: t[0, 0];", 1);
        fine("table t = 9999, -9999; cost 0: t[0];", 1);
    }

    private static void alone() {
        String q = "var q[2] 0..1; ";
        fine(q + "rule distinct(q) and ordered(1, q, 2) and circuit(q, q);", 4);
        fine(q + "cost 0: min(q) + max(q, 1) + sum(1, q) + count(q | 1) + count(1, q | 0);", 4);
        fault(5, q + "cost 0: count(1 | ^q);");
        fault(5, q + "cost 0: abs(^q);");
        fault(5, q + "cost 0: (^q);");
        fault(5, q + "cost 0: q[^q];");
        fault(5, q + "cost 0: sum(^q + 1);");
        fault(5, q + "cost 0: sum(1 + ^q);");
        fault(5, q + "cost 0: sum(-^q);");
        fault(5, q + "cost 0: sum((^q));");
        fault(5, q + "rule fits(^q, 1, 1 | 1);");
        fault(5, q + "rule fits(1, 1, ^q | 1);");
        fault(5, q + "rule fits(1, 1, 1 | ^q);");
        fault(2, q + "rule distinct(q ^| 1);");
        fault(5, q + "rule distinct(^q");
    }

    /** The first fault that reading meets, and of one token the least. */
    private static void ahead() {
        fault(5, "rule ^x = $;");
        fault(5, "rule ^x $");
        fault(2, "var x 0..1 ^rule y = 1;");
        fault(4, "var x 0..1; var ^x 5..1;");
        fault(6, "var x[^9] 5..1 $");
        fault(6, "var x[8] 0..0; var y[4] 0..0; cost ^7: x;");
        fault(5, "table t = 1; cost 0: t[0, ^y];");
        fault(5, "table t = 1; rule in t (1, ^y);");
    }

    private static void problems() {
        SolverHouse house = new SolverHouse();
        CHECKS.due("first", Checks.read(house, 2, "var x 3..5; rule x = 4; soft 0 1: x = 1;"), 3);
        house.plan(2, 0, 5);
        house.pin(2, 0, 4);
        house.turn(2, 0, false);
        CHECKS.due("faulty", Checks.read(house, 2, "var x 0..1; var x"), -14);
        CHECKS.due("place", house.place(), 16);
        CHECKS.due("place again", house.place(), 16);
        CHECKS.due("the one before stays", house.told(2, 7, 0), 4);
        CHECKS.due("its plan", house.value(2, 0), 5);
        CHECKS.due("large", Checks.read(house, 2, "var x 0..141; var y 0..141;"), -3);
        CHECKS.due("no place", house.place(), -2);
        CHECKS.due("the one before stays", house.told(2, 7, 0), 4);
        CHECKS.due("its rules", house.told(2, 11, 0), 0);
        CHECKS.due("20000 plans", Checks.read(house, 1, "var x 1..100; var y 1..200;"), 20000);
        CHECKS.due("20001 plans", Checks.read(house, 1, "var x 1..59; var y 1..339;"), -3);
        CHECKS.due("all too many", Checks.read(house, 1, "var x[8] -999..999; var y[4] -999..999;"), -3);
        CHECKS.due("still 20000", house.told(1, 3, 0), 20000);
        Checks.feed(house, "var x 0..1; $");
        CHECKS.due("problem(4)", house.problem(4), -1);
        CHECKS.due("problem(-1)", house.problem(-1), -1);
        CHECKS.due("the tape stays", house.cut(1), 12);
        CHECKS.due("problem(2)", house.problem(2), 2);
        CHECKS.due("all new: pin", house.told(2, 7, 0), 10000);
        CHECKS.due("all new: plan", house.value(2, 0), 0);
        CHECKS.due("all new: rules", house.told(2, 2, 0), 0);
        CHECKS.due("empty tape, empty problem", house.problem(2), 1);
        CHECKS.due("no variables", house.told(2, 0, 0), 0);
        Checks.read(house, 2, "var x 3..5; rule x = 4; soft 0 1: x = 1;");
        CHECKS.due("all on", house.told(2, 11, 0) + house.told(2, 11, 1), 2);
        CHECKS.due("slot 0 is empty", house.told(0, 0, 0), -2);
        CHECKS.due("slot 3 is empty", house.told(3, 0, 0), -2);
    }

    /** Names and numbers of older texts do not shine through. */
    private static void nothingStays() {
        String[] texts = {
            "var a 0..1; table b = 1; rule c: a = b[0];", "var b[2] 0..1; table c = 1 | 2; rule a: b[0] = c[1, 0];",
            "var c 0..1; table a = 1, 2; rule b: c = a[1];", "rule a: 1 = 1; rule b: 1 = 1; rule c: 1 = 1;",
            "var a 0..1; var b 0..1; var c 0..1;", "table a = 1; table b = 2; table c = 3;"
        };
        int[] spaces = {2, 4, 2, 1, 8, 1};
        SolverHouse house = new SolverHouse();
        for (int n = 0; n < 60; n++) {
            int i = n * 7 % texts.length;
            if (n % 5 == 0) {
                CHECKS.due("none yet", Checks.read(house, n % 3, "rule a = b[0] or c = 1;"), -15);
            }
            CHECKS.due("again " + texts[i], Checks.read(house, n % 3, texts[i]), spaces[i]);
        }
    }
}
