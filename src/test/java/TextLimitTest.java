/** The limits that part 1 of the document names: at each, one below it and one above it; and each FAULT. */
public final class TextLimitTest {
    private static final Checks CHECKS = new Checks();
    private static final String[] WORDS = ("var table rule soft cost and or not mod min max abs count sum distinct"
        + " ordered circuit fits in").split(" ");

    public static void main(String[] args) {
        wholeTape();
        blanks();
        remarks();
        names();
        words();
        numbers();
        longestTokens();
        ends();
        variables();
        tables();
        numbersOfTable();
        items();
        tokens();
        expsWithin();
        condsWithin();
        within();
        toldAlready();
        noneSuch();
        rowsAlone();
        rowNumbers();
        ranges();
        levelsAndWeights();
        rowsOfTable();
        places();
        listsBehindIn();
        leastOfOneToken();
        firstMet();
        CHECKS.end();
    }

    private static void fault(int kind, String marked) {
        CHECKS.fault(kind, marked);
    }

    private static void fine(String text, int space) {
        CHECKS.fine(text, space);
    }

    private static String times(int n, String text) {
        return Checks.times(n, text);
    }

    // "THE TAPE has up to 3000 bytes." "(the end: the text's length)"

    private static void wholeTape() {
        for (int size = 2998; size <= 3000; size++) {
            fine(times(size - 11, " ") + "var x 0..1;", 2);
            fine("var x 0..1;" + times(size - 11, "\n"), 2);
            fine("var x 0..1;#" + times(size - 12, "$"), 2);
            fault(1, times(size - 1, " ") + "^$");
            fault(2, times(size - 1, " ") + "^;");
            fault(2, times(size - 3, " ") + "var^");
            fault(2, "var" + times(size - 3, " ") + "^");
            fault(2, "var#" + times(size - 4, "x") + "^");
            fault(1, "^" + times(size, "x"));
            fault(1, "^" + times(size, "7"));
        }
    }

    // "BLANKS (9, 10, 13, 32)"

    private static void blanks() {
        int[] blanks = {9, 10, 13, 32};
        for (int b : blanks) {
            String blank = Character.toString(b);
            fine("var x 0..1;rule x=1;".replace(" ", blank), 2);
            fine(blank + "var x 0 .. 1 ; rule x = 1 ;".replace(" ", times(3, blank)) + blank, 2);
        }
        int[] others = {0, 8, 11, 12, 14, 31, 33, 127, 128, 133, 160, 255};
        for (int b : others) {
            fault(1, "var^" + Character.toString(b) + "x 0..1;");
            fault(1, "var x 0..1;^" + Character.toString(b));
        }
    }

    // "REMARKS (from # up to the next 10, or the end)"

    private static void remarks() {
        fine("#", 1);
        fine("#\n", 1);
        fine("##\n#", 1);
        fine("#\nvar x 0..1;", 2);
        fine("var#\nx#\n0#\n..#\n1#\n;#", 2);
        fine("var x 0..1;# $ \r $ \t $ # $\nvar y 0..1;", 4);
        fine("# \r var x 0..1;", 1);
        fault(1, "#\n^$");
        fault(1, "# $ \n # $ \n ^$ #");
        fault(2, "^va#\nr x 0..1;");
        fault(2, "rule 1 <#\n^= 2;");
        fault(1, "rule 1 ^!#\n= 2;");
    }

    // "NAMES: a letter, then letters and digits, at most 8."

    private static void names() {
        for (int size = 1; size <= 8; size++) {
            fine("var " + times(size, "z") + " 0..1;", 2);
            fine("var A" + times(size - 1, "9") + " 0..1;", 2);
        }
        for (int size = 9; size <= 17; size++) {
            fault(1, "var ^" + times(size, "z") + " 0..1;");
            fault(1, "var ^A" + times(size - 1, "9") + " 0..1;");
        }
        String edges = "AZaz";
        for (char letter : edges.toCharArray()) {
            fine("var " + letter + " 0..1; rule " + letter + "=1;", 2);
            fine("var x" + letter + "09 0..1;", 2);
        }
        String beside = "@`^_~.'\"&%!?\\";
        for (char b : beside.toCharArray()) {
            String text = "var " + b + " 0..1;";
            SolverHouse house = new SolverHouse();
            CHECKS.due(text, Checks.read(house, 0, text), -11);
            CHECKS.due("place of " + text, house.place(), 4);
        }
        fault(2, "var ^[ 0..1;");
        fault(2, "var ^{ 0..1;");
        fault(2, "var ^1x 0..1;");
        fault(1, "var x 0..1; rule ^xxxxxxxxx = 1;");
        fault(1, "table ^abcdefghi = 1;");
        fault(1, "rule ^abcdefghi: 1 = 1;");
        fine("table abcdefgh = 1; rule abcdefgi: 1 = 1; var abcdefgj 0..1;", 2);
        fine("var abcdefgh 0..1; var abcdefgi 0..1; rule abcdefgh != abcdefgi;", 4);
    }

    // "WORDS are NAMES that are none"

    private static void words() {
        CHECKS.due("words", WORDS.length, 19);
        for (String word : WORDS) {
            fault(2, "var ^" + word + " 0..1;");
            fault(2, "table ^" + word + " = 1;");
            fault(2, "rule in ^" + word + " (1);");
            String big = word.substring(0, 1).toUpperCase() + word.substring(1);
            fine("var " + big + " 0..1;", 2);
            fine("var " + word.toUpperCase() + " 0..1;", 2);
            fine("var " + word.substring(0, word.length() - 1) + " 0..1;", 2);
            if (word.length() < 8) {
                fine("var " + word + "s 0..1;", 2);
                fine("var " + word + "0 0..1;", 2);
            }
        }
        fault(1, "var ^distinct0 0..1;");
        String items = " var table rule soft cost ";
        for (String word : WORDS) {
            if (!items.contains(" " + word + " ")) {
                fault(2, "^" + word + " x 0..1;");
            }
        }
        fault(2, "^VAR x 0..1;");
    }

    // "NUMBERS: 1 to 4 digits."

    private static void numbers() {
        String[][] around = {
            {"var x[", "] 0..1;"}, {"var x ", "..999;"}, {"var x -", "..999;"}, {"var x -999..", ";"}, {"var x -999..-", ";"},
            {"table t = ", ";"}, {"table t = -", ";"}, {"soft ", " 1: 1 = 1;"}, {"soft 0 ", ": 1 = 1;"}, {"cost ", ": 1;"},
            {"cost 0: ", ";"}, {"rule 1 = ", ";"}
        };
        for (String[] text : around) {
            for (int zeros = 0; zeros < 4; zeros++) {
                SolverHouse house = new SolverHouse();
                String whole = text[0] + times(zeros, "0") + "1" + text[1];
                CHECKS.due("reading " + whole, Checks.read(house, 0, whole) > 0 ? 1 : 0, 1);
            }
            fault(1, text[0] + "^00001" + text[1]);
            fault(1, text[0] + "^00000" + text[1]);
            fault(1, text[0] + "^12345" + text[1]);
            fault(1, text[0] + "^123456789012345678901234567890" + text[1]);
        }
        fine("cost 0: 9999;", 1);
        fine("table t = 9999, -9999;", 1);
        // "INT: perhaps - and a NUMBER."
        fault(2, "var x ^+1..2;");
        fault(2, "var x -^-1..2;");
        fault(2, "var x 0..-^-2;");
        fault(2, "table t = ^+1;");
        fault(2, "table t = -^x;");
        fault(2, "table t = ^(1);");
        fault(2, "cost 0: 9999 ^9;");
        fault(2, "cost 0: 1^x;");
    }

    // "TOKENS, as long as can be, with BLANKS and REMARKS between where needed"

    private static void longestTokens() {
        fine("var x 0..1;rule x<=1;rule x>=-1;rule x!=2;rule 1=1->1=1;rule x<-1;rule x>-1;", 2);
        fine("rule 1>=1;rule 1<=1;rule 1!=2;rule 1=1->1=1;var x 0..1;", 2);
        fine("rule 1=1or 1=1and 1=1;rule not{1=2};rule 2mod 3=2;", 1);
        fault(2, "rule 2 ^mod3 = 2;");
        fault(2, "^rule1 = 1;");
        fault(2, "^cost0: 1;");
        fault(2, "var x0^..1;");
        fault(2, "^varx 0..1;");
        fault(1, "var x 0^. .1;");
        fault(1, "var x 0..^.1;");
        fault(2, "var x 0..^..1;");
        fault(1, "var x 0.. ^.1;");
        fault(2, "rule 1 < ^= 1;");
        fault(2, "rule 1 > ^= 1;");
        fault(1, "rule 1 ^! = 1;");
        fault(2, "rule 1 = 1 - ^> 1 = 1;");
        fault(2, "rule 1 !=^= 1;");
        fault(2, "rule 1 =^= 1;");
        fault(2, "rule 1 =^< 1;");
        fault(2, "rule 1 <^> 1;");
        fault(2, "rule 1 <=^> 1;");
        fault(2, "rule 1 =^> 1;");
        fault(2, "rule 1 = 1 -^-> 1 = 1;");
        fault(2, "rule 1 = 1 ->^> 1 = 1;");
        fine("rule 1 = 1 ->-1 = 1;", 1);
        fine("cost 0: 1---1;", 1);
        fault(2, "cost 0: 1^->1;");
        fault(1, "rule 1 = 1^!");
        fault(1, "rule 1 = 1^.");
        fault(2, "rule 1 = 1 -^");
        fault(2, "rule 1 <^");
    }

    // "2 a token that can't stand there (the end: the text's length)": each text breaks off behind each token

    private static void ends() {
        String[] items = {
            "var x [ 2 ] - 3 .. - 1 ;", "table t = - 1 , 2 | 3 , - 4 ;", "rule r : not { 1 = 1 } and 1 != 2 or 1 < 2 -> 1 > 2 ;",
            "soft 1 2 : distinct ( 1 , 1 ) and ordered ( 1 ) and circuit ( 1 ) ;",
            "rule fits ( 1 , 2 , 3 | 4 , 5 , 6 | 7 ) ;", "cost 0 : ( 1 + 2 ) - abs ( - 1 ) ;",
            "cost 2 : min ( 1 , 1 ) * max ( 1 ) / sum ( 1 , 1 ) mod abs ( - 1 ) + count ( 1 , 1 | 2 ) ;"
        };
        for (String item : items) {
            for (int end = item.indexOf(' '); end >= 0; end = item.indexOf(' ', end + 1)) {
                if (item.startsWith("rule r :") && end == 6) {
                    // Without a : behind it r would be a variable.
                    fault(5, "rule ^r");
                    continue;
                }
                fault(2, item.substring(0, end) + "^");
                fault(2, item.substring(0, end) + "  \n^");
                fault(2, item.substring(0, end) + " # ;^");
                fault(1, item.substring(0, end) + " ^$ ;");
            }
            SolverHouse house = new SolverHouse();
            CHECKS.due("reading " + item, Checks.read(house, 0, item) > 0 ? 1 : 0, 1);
        }
        fine("", 1);
    }

    // "3 a 13th variable (rows counted by their NUMBER; at the NAME)"

    private static String singles(int n) {
        StringBuilder all = new StringBuilder();
        for (int i = 0; i < n; i++) {
            all.append("var ").append((char) ('a' + i)).append(" 0..0;");
        }
        return all.toString();
    }

    private static void variables() {
        fine(singles(11), 1);
        fine(singles(12), 1);
        fault(3, singles(12) + "var ^z 0..0;");
        fault(3, singles(12) + "var ^z");
        fault(3, singles(12) + "var ^z[1] 0..0;");
        fault(2, singles(12) + "var ^1");
        fault(2, singles(12) + "var^");
        fault(1, singles(12) + "var ^$");
        for (int size = 1; size <= 8; size++) {
            String row = "[" + size + "] 0..0;";
            fine(singles(11 - size) + "var z" + row, 1);
            fine(singles(12 - size) + "var z" + row, 1);
            fault(3, singles(13 - size) + "var ^z" + row);
            fine("var y" + row + singles(12 - size), 1);
            fault(3, "var y" + row + singles(12 - size) + "var ^z 0..0;");
        }
        fine("var x[4] 0..0; var y[4] 0..0; var z[4] 0..0;", 1);
        fault(3, "var x[4] 0..0; var y[4] 0..0; var ^z[5] 0..0;");
        fault(3, "var x[5] 0..0; var ^z[8");
    }

    // "a 9th table"

    private static String tables(int n) {
        StringBuilder all = new StringBuilder();
        for (int i = 0; i < n; i++) {
            all.append("table ").append((char) ('a' + i)).append(" = 1;");
        }
        return all.toString();
    }

    private static void tables() {
        fine(tables(7), 1);
        fine(tables(8), 1);
        fine(tables(8) + "rule a[0] = h[0];", 1);
        fault(3, tables(8) + "^table z = 1;");
        fault(3, tables(8) + "^table");
        fault(3, tables(8) + "^table a = 1;");
        SolverHouse house = CHECKS.house(tables(8));
        CHECKS.due("eight tables", house.told(0, 1, 0), 8);
    }

    // "25th number of a table"

    private static void numbersOfTable() {
        for (int size = 23; size <= 24; size++) {
            fine("table t = 1" + times(size - 1, ", 1") + ";", 1);
            fine("table t = 1" + times(size - 1, "| 1") + ";", 1);
            fine("table t = -1" + times(size - 1, ", -1") + ";", 1);
        }
        fault(3, "table t = 1" + times(23, ", 1") + ", ^1;");
        fault(3, "table t = 1" + times(23, "| 1") + "| ^1;");
        fault(3, "table t = 1" + times(23, ", 1") + ", ^-1;");
        fault(3, "table t = 1" + times(23, ", 1") + "| ^1;");
        fault(3, "table t = 1, 2, 3, 4, 5" + times(3, "| 1, 2, 3, 4, 5") + "| 1, 2, 3, 4, ^5;");
        fine("table t = 1, 2, 3" + times(7, "| 1, 2, 3") + ";", 1);
        fault(2, "table t = 1" + times(23, ", 1") + ", ^;");
        String full = " = 1" + times(23, ", 1") + ";";
        fine("table a" + full + "table b" + full + "table c" + full + "table d" + full, 1);
        fault(3, "table a" + full + "table b = 1" + times(23, ", 1") + ", ^1;");
    }

    // "17th rule, soft or cost in all (at that word)"

    private static void items() {
        String[] kinds = {"rule 1 = 1;", "soft 0 1: 1 = 1;", "cost 0: 1;", "rule a: 1 = 1;"};
        for (String kind : kinds) {
            String others = "cost 1: 2;";
            fine(times(14, others) + kind, 1);
            fine(times(15, others) + kind, 1);
            fault(3, times(16, others) + "^" + kind);
            fault(3, times(16, others) + "^" + kind.substring(0, 4));
            fault(3, kind + times(15, others) + "^cost");
        }
        fine(times(5, kinds[0] + kinds[1] + kinds[2]) + kinds[0], 1);
        fault(3, times(5, kinds[0] + kinds[1] + kinds[2]) + kinds[0] + "^" + kinds[1]);
        SolverHouse house = CHECKS.house(times(16, kinds[0]));
        CHECKS.due("sixteen rules", house.told(0, 2, 0), 16);
        // Variables and tables are no such items.
        fine(times(16, kinds[2]) + "var x 0..1; table t = 1;", 2);
    }

    // "the 401st token of a problem"

    /** A cost of so many tokens, six or more. */
    private static String filler(int n) {
        return "cost 0:" + times((n - 5) % 2, "-") + "1" + times((n - 5) / 2, "+1") + ";";
    }

    private static void tokens() {
        fine(filler(399), 1);
        fine(filler(400), 1);
        String most = filler(401);
        fault(3, most.substring(0, most.length() - 1) + "^;");
        String all = filler(400);
        fault(3, all + "^var x 0..1;");
        fault(3, all + "^table t = 1;");
        fault(3, all + "^rule 1 = 1;");
        fault(3, all + "^soft 0 1: 1 = 1;");
        fault(3, all + "^cost 0: 1;");
        fault(2, all + "^;");
        fault(2, all + "^x");
        fault(1, all + "^$");
        fault(1, all + "^123456");
        fine(all + " \n # var", 1);
        fine(filler(200) + filler(200), 1);
        fault(3, filler(200) + filler(200) + "^cost");
        fault(3, filler(396) + "cost 0: 1^;");
        fine(filler(395) + "cost 0: 1;", 1);
        fine(filler(393) + "var x 0..1;", 2);
        fine(filler(394) + "var x 0..1;", 2);
        fault(3, filler(395) + "var x 0..1^;");
        fault(2, all.substring(0, all.length() - 1) + "^");
    }

    // "what stands within more than 12 others (in ( ), [ ], { }, behind - of an exp, behind not; at its first token)"

    private static final String HEAD = "var q[2] 0..0;table t = 0;table u = 0|0;";

    private static void expsWithin() {
        String[][] around = {
            {"(", ")"}, {"-", ""}, {"abs(", ")"}, {"min(", ")"}, {"max(", ")"}, {"sum(", ")"}, {"count(", "|0)"},
            {"q[", "]"}, {"t[", "]"}, {"u[", ",0]"}, {"min(0,", ")"}, {"count(0|", ")"}, {"u[0,", "]"}, {"(0+", ")"}
        };
        for (String[] sign : around) {
            for (int n = 11; n <= 12; n++) {
                String inner = times(n, sign[0]) + "0" + times(n, sign[1]);
                fine(HEAD + "cost 0:" + inner + ";", 1);
                fine(HEAD + "rule 0=" + inner + ";", 1);
                fine(HEAD + "rule " + inner + "=0;", 1);
            }
            // The sign that opens the 13th stands within 12 others alone; what it opens, even its first exp, does not.
            int zero = sign[0].indexOf('0');
            String most = times(12, sign[0]);
            tooDeep(most + (zero < 0 ? sign[0] : sign[0].substring(0, zero)));
        }
        String both = times(6, "(-");
        fine("cost 0:" + both + "0" + times(6, ")") + ";", 1);
        tooDeep(both + "(");
        tooDeep(both + "-");
    }

    private static void tooDeep(String open) {
        String[] firsts = {"0", "q[0]", "q", "x", "(0)", "-0", "min(0)", "abs(0)", "count(0|0)", ")", ";", "", "]", "and"};
        for (String first : firsts) {
            fault(3, HEAD + "cost 0:" + open + "^" + first);
            fault(3, HEAD + "rule 0=" + open + "^" + first);
            fault(3, HEAD + "rule " + open + "^" + first);
        }
        fault(1, HEAD + "cost 0:" + open + "^$");
        fault(1, HEAD + "cost 0:" + open + "^12345");
    }

    private static void condsWithin() {
        String[][] around = {{"not ", ""}, {"{", "}"}, {"{1=1 or ", "}"}, {"{1=1->", "}"}, {"not 1=1 and not ", ""}};
        for (String[] sign : around) {
            for (int n = 11; n <= 12; n++) {
                fine("rule " + times(n, sign[0]) + "1=1" + times(n, sign[1]) + ";", 1);
                fine("soft 0 1:" + times(n, sign[0]) + "1=1" + times(n, sign[1]) + ";", 1);
            }
        }
        String[] firsts = {"1=1", "not 1=1", "{1=1}", "distinct(1)", "fits(1,1,1|1)", "in t (1)", "x=1", "}", ";", "", "and"};
        String[] opens = {"not ", "{"};
        for (String open : opens) {
            for (String first : firsts) {
                fault(3, HEAD + "rule " + times(13, open) + "^" + first);
                fault(3, HEAD + "soft 0 1:" + times(13, open) + "^" + first);
            }
            fault(1, HEAD + "rule " + times(13, open) + "^$");
            fault(2, HEAD + "rule " + times(12, open) + "^}");
            fault(2, HEAD + "rule " + times(12, open) + "^");
            fault(1, HEAD + "rule " + times(12, open) + "^$");
            fault(5, HEAD + "rule " + times(12, open) + "^x");
        }
    }

    /** Lists, tasks and places within conds: a cond of n others around leaves 12 - n for what stands in it. */
    private static void within() {
        String[][] specials = {
            {"distinct(", "0)"}, {"ordered(", "0)"}, {"circuit(", "0)"}, {"in t (", "0)"}, {"fits(", "0,0,0|0)"},
            {"distinct(", "q)"}, {"ordered(", "q,0)"}
        };
        for (String[] special : specials) {
            fine(HEAD + "rule " + times(11, "{") + special[0] + special[1] + times(11, "}") + ";", 1);
            fine(HEAD + "rule " + times(11, "not ") + special[0] + special[1] + ";", 1);
            fault(3, HEAD + "rule " + times(12, "{") + special[0] + "^" + special[1]);
            fault(3, HEAD + "rule " + times(12, "not ") + special[0] + "^" + special[1]);
            fault(3, HEAD + "rule " + times(12, "not ") + special[0] + "^)");
            fault(3, HEAD + "rule " + times(11, "not ") + special[0] + "-^" + "0)");
        }
        String deep = times(11, "(") + "0" + times(11, ")");
        String deeper = times(12, "(") + "^0";
        fine(HEAD + "rule distinct(" + deep + "," + deep + ");", 1);
        fine(HEAD + "rule fits(" + deep + "," + deep + "," + deep + "|" + deep + ");", 1);
        fine(HEAD + "rule in t (" + deep + ");", 1);
        fine(HEAD + "cost 0: count(" + deep + "," + deep + "|" + deep + ") + u[" + deep + "," + deep + "];", 1);
        fault(3, HEAD + "rule distinct(" + deep + "," + deeper);
        fault(3, HEAD + "rule fits(" + deeper);
        fault(3, HEAD + "rule fits(" + deep + "," + deeper);
        fault(3, HEAD + "rule fits(0,0," + deeper);
        fault(3, HEAD + "rule fits(0,0,0|" + deeper);
        fault(3, HEAD + "rule fits(0,0,0|0,0," + deeper);
        fault(3, HEAD + "rule in t (" + deeper);
        fault(3, HEAD + "cost 0: count(0," + deeper);
        fault(3, HEAD + "cost 0: count(0|" + deeper);
        fault(3, HEAD + "cost 0: u[0," + deeper);
        // What stands beside the others does not stand within them.
        fine("cost 0: " + times(3, times(12, "(") + "0" + times(12, ")") + "+") + times(12, "-") + "0;", 1);
        fine("rule " + times(4, times(12, "not ") + "1=1 and ") + times(12, "{") + "1=1" + times(12, "}") + ";", 1);
        // The - of an INT and the one between two exps count nothing.
        fine("var x -3..-1;table v = -1;cost 0:" + times(12, "(") + "0-0" + times(12, ")") + ";", 3);
        fine("cost 0: 0" + times(40, "-0") + ";", 1);
        fault(3, "cost 0:" + times(6, "(-") + "(" + "^-0");
        fine("rule " + times(4, "{not -(0)=0 and ") + "1=1" + times(4, "}") + ";", 1);
    }

    // "4 a NAME that is told already (variables, tables, rules together; at it)"

    private static void toldAlready() {
        String[] firsts = {"var x 0..0;", "var x[2] 0..0;", "table x = 0;", "rule x: 1 = 1;"};
        String[] seconds = {"var ^x 0..0;", "var ^x[2] 0..0;", "table ^x = 0;", "rule ^x: 1 = 1;"};
        for (String first : firsts) {
            for (String second : seconds) {
                fault(4, first + second);
                fault(4, first + "var y 0..0; table z = 0; rule w: 1 = 1;" + second);
                fault(4, first + second.substring(0, second.indexOf('x') + 1) + (second.startsWith("rule") ? ":" : ""));
                fine(first + second.replace("^x", "X"), 1);
                fine(first + second.replace("^x", "xx"), 1);
            }
        }
        // Of rules only the ones with a : behind tell a NAME, and softs and costs have none.
        fine("var x 0..0; rule x = 0; rule x = 0;", 1);
        fault(5, "table x = 0; rule ^x = 0;");
    }

    // "5 a NAME that is none"

    private static void noneSuch() {
        String head = "var x 0..0; var q[2] 0..0; table t = 0; rule r: 1 = 1;";
        String[] spots = {"rule @ = 1;", "rule 1 = @;", "soft 0 1: @ = 1;", "cost 0: @;", "cost 0: -@;", "cost 0: (@);",
            "cost 0: 1 + @;", "cost 0: abs(@);", "cost 0: min(@);", "cost 0: q[@];", "cost 0: t[@];", "rule distinct(1, @);",
            "rule fits(@, 1, 1 | 1);", "rule fits(1, 1, 1 | @);", "rule in t (@);", "cost 0: count(@ | 1);",
            "cost 0: count(1 | @);"};
        for (String spot : spots) {
            fine(head + spot.replace("@", "x"), 1);
            fine(head + spot.replace("@", "q[0]"), 1);
            fine(head + spot.replace("@", "t[0]"), 1);
            String[] nones = {"y", "y[0]", "r", "r[0]", "x[0]", "t", "X", "x1"};
            for (String none : nones) {
                fault(5, head + spot.replace("@", "^" + none));
            }
        }
        String[] noTables = {"x", "q", "r", "y", "T"};
        for (String none : noTables) {
            fault(5, head + "rule in ^" + none + " (1);");
            fault(5, head + "rule in ^" + none);
        }
        fault(5, "cost 0: ^x; var x 0..0;");
        fault(5, "rule in ^t (1); table t = 1;");
        fault(5, "rule r: ^r = 1;");
    }

    // "a NAME of a row of variables alone (with , or ) or | behind it) stands for all of them"

    private static void rowsAlone() {
        String head = "var q[2] 0..0; table t = 0, 0; table u = 0 | 0;";
        String[] lists = {"rule distinct", "rule ordered", "rule circuit", "rule in t ", "cost 0: min", "cost 0: max", "cost 0: sum"};
        for (String list : lists) {
            fine(head + list + "(q);", 1);
            fault(5, head + list + "(^q");
            fault(5, head + list + "(^q;");
            fault(5, head + list + "(^q]");
            fault(5, head + list + "(^q + 0);");
            fault(5, head + list + "(0 + ^q);");
            fault(5, head + list + "(-^q);");
            fault(5, head + list + "((^q));");
            fault(5, head + list + "(^q $");
            fault(2, head + list + "(q ^| 0);");
            fault(2, head + list + "(q, ^);");
        }
        fine(head + "rule distinct(q, q, 0) and distinct(0, q);", 1);
        fine(head + "cost 0: count(q | 0) + count(q, q | 0) + count(0, q | 0);", 1);
        fault(2, head + "cost 0: count(q ^);");
        fault(5, head + "cost 0: count(0 | ^q);");
        fault(5, head + "cost 0: abs(^q);");
        fault(5, head + "cost 0: (^q);");
        fault(5, head + "cost 0: q[^q];");
        fault(5, head + "cost 0: u[^q, 0];");
        fault(5, head + "rule fits(^q, 0, 0 | 0);");
        fault(5, head + "rule fits(0, 0, ^q | 0);");
        fault(5, head + "rule fits(0, 0, 0 | ^q);");
        fault(5, head + "rule ^q = 0;");
        fault(5, head + "cost 0: ^q;");
        fine("var q[1] 0..0; table t = 0; rule distinct(q) and in t (q);", 1);
        // A NUMBER that is the byte of a row's NAME stays a NUMBER.
        for (char letter = 'A'; letter <= 'z'; letter++) {
            if (Character.isLetter(letter)) {
                String text = "var " + letter + "[2] 0..0; cost 0: sum(" + (int) letter + ", " + letter + ");";
                SolverHouse house = CHECKS.house(text);
                house.judge(0);
                CHECKS.due(text, house.score(0), letter);
            }
        }
    }

    // "6 a row's NUMBER is not 1 .. 8"

    private static void rowNumbers() {
        for (int n = 1; n <= 8; n++) {
            fine("var q[" + n + "] 0..1;", 1 << n);
        }
        int[] wrong = {0, 9, 10, 18, 256, 257, 9999};
        for (int n : wrong) {
            fault(6, "var q[^" + n + "] 0..1;");
            fault(6, "var q[^" + n);
            fault(6, "var q[^" + n + " $");
        }
        fault(6, "var q[^0000] 0..1;");
        fine("var q[0008] 0..1;", 256);
        fault(2, "var q[^] 0..1;");
        fault(2, "var q[^-1] 0..1;");
        fault(2, "var q[1^, 1] 0..1;");
    }

    // "a range's INT not -999 .. 999, or the first above the second"

    private static void ranges() {
        fine("var x -999..-999;", 1);
        fine("var x 999..999;", 1);
        fine("var x -999..999;", 1999);
        fine("var x -998..998;", 1997);
        fine("var x -0..0;", 1);
        String[] low = {"-1000", "-1001", "-9999", "- 1000"};
        String[] high = {"1000", "1001", "9999"};
        for (String n : low) {
            fault(6, "var x ^" + n + "..0;");
            fault(6, "var x ^" + n + "..-999;");
            fault(6, "var q[2] ^" + n + "$");
            fault(6, "var x -999..^" + n + ";");
            fault(6, "var x 0..^" + n + "$");
        }
        for (String n : high) {
            fault(6, "var x ^" + n + "..999;");
            fault(6, "var x ^" + n + "..5;");
            fault(6, "var x ^" + n);
            fault(6, "var x 999..^" + n + ";");
            fault(6, "var q[2] -5..^" + n + "$");
        }
        int[] edges = {-999, -998, -1, 0, 1, 998, 999};
        for (int edge : edges) {
            fine("var x " + edge + ".." + edge + ";", 1);
            if (edge < 999) {
                fine("var x " + edge + ".." + (edge + 1) + ";", 2);
                fault(6, "var x " + (edge + 1) + "..^" + edge + ";");
                fault(6, "var x " + (edge + 1) + "..^" + edge);
            }
        }
        fault(6, "var x 999..^-999;");
        fault(6, "var x 0..^- 1;");
    }

    // "a level not 0 .. 2, a weight not 1 .. 99"

    private static void levelsAndWeights() {
        for (int level = 0; level <= 2; level++) {
            fine("cost " + level + ": 1; soft " + level + " 1: 1 = 1;", 1);
        }
        int[] wrong = {3, 4, 10, 256, 9999};
        for (int level : wrong) {
            fault(6, "cost ^" + level + ": 1;");
            fault(6, "cost ^" + level);
            fault(6, "soft ^" + level + " 1: 1 = 1;");
            fault(6, "soft ^" + level + " 0: 1 = 1;");
            fault(6, "soft ^" + level + "$");
        }
        int[] weights = {1, 2, 98, 99};
        for (int weight : weights) {
            fine("soft 0 " + weight + ": 1 = 1;", 1);
        }
        int[] wrongWeights = {0, 100, 101, 9999};
        for (int weight : wrongWeights) {
            fault(6, "soft 2 ^" + weight + ": 1 = 1;");
            fault(6, "soft 2 ^" + weight + "$");
        }
        fault(2, "cost ^-1: 1;");
        fault(2, "soft ^-1 1: 1 = 1;");
        fault(2, "soft 1 ^-1: 1 = 1;");
        fault(2, "soft 1^: 1 = 1;");
        fault(2, "cost 1 ^1: 1;");
    }

    // "a table's rows not of one length (at the row's first INT; met at the | or ; behind the row)"

    private static void rowsOfTable() {
        fine("table t = 1, 2 | 3, 4 | 5, 6;", 1);
        fault(6, "table t = 1, 2 | ^3;");
        fault(6, "table t = 1, 2 | ^3 | 4, 5;");
        fault(6, "table t = 1, 2 | ^3, 4, 5;");
        fault(6, "table t = 1, 2 | 3, 4 | ^-5;");
        fault(6, "table t = 1, 2 | 3, 4 | ^5, 6, 7 | 8;");
        fault(6, "table t = 1 | ^- 2, 3;");
        fault(6, "table t = 1 | ^2, 3|");
        fault(6, "table t = 1 | ^2, 3;$");
        fault(2, "table t = 1 | 2, 3^");
        fault(2, "table t = 1 | 2, 3 ^4;");
        fault(2, "table t = 1 | 2, 3^:");
        fault(1, "table t = 1 | 2, 3 ^$");
        fault(3, "table t = 1 | 2" + times(22, ", 2") + ", ^2;");
    }

    // "[ of a table with more than one row .. not two exps, of a table with one row or a row of variables .. not one"

    private static void places() {
        String head = "var q[2] 0..0; var s[1] 0..0; table a = 0; table b = 0, 0; table c = 0 | 0; table d = 0, 0 | 0, 0;";
        String[] ones = {"q", "s", "a", "b"};
        String[] twos = {"c", "d"};
        for (String one : ones) {
            fine(head + "cost 0: " + one + "[0];", 1);
            fault(6, head + "cost 0: " + one + "^[0, 0];");
            fault(6, head + "cost 0: " + one + "^[0, 0, 0];");
            fault(6, head + "cost 0: 1 + " + one + " ^[ 0, 0 ] $");
            fault(2, head + "cost 0: " + one + "[^];");
            fault(6, head + "rule " + one + "^[0, 0] = 0;");
        }
        for (String two : twos) {
            fine(head + "cost 0: " + two + "[0, 0];", 1);
            fault(6, head + "cost 0: " + two + "^[0];");
            fault(6, head + "cost 0: " + two + "^[0, 0, 0];");
            fault(6, head + "cost 0: d[0, " + two + "^[0]];");
            fault(2, head + "cost 0: " + two + "[^];");
            fault(2, head + "cost 0: " + two + "[0, ^];");
        }
    }

    // "( of a list behind in that has another number of exps than the table's rows have numbers"

    private static void listsBehindIn() {
        String head = "var q[2] 0..0; table a = 0; table b = 0, 0 | 0, 0; table c = 0, 0, 0;";
        String[] names = {"a", "b", "c"};
        for (int size = 1; size <= 3; size++) {
            for (int n = 1; n <= 5; n++) {
                String list = "0" + times(n - 1, ", 0") + ")";
                if (n == size) {
                    fine(head + "rule in " + names[size - 1] + " (" + list + ";", 1);
                } else {
                    fault(6, head + "rule in " + names[size - 1] + " ^(" + list + ";");
                    fault(6, head + "rule in " + names[size - 1] + " ^(" + list + " $");
                }
            }
        }
        fine(head + "rule in b (q) and in c (q, 0) and in c (0, q);", 1);
        fault(6, head + "rule in a ^(q);");
        fault(6, head + "rule in c ^(q);");
        fault(6, head + "rule in c ^(q, q);");
        fault(6, head + "rule in b ^(q, 0);");
        fine(head + "rule in a (q[0]);", 1);
    }

    // "of one token the least, but 3 of what stands within too many others ahead of 2"

    private static void leastOfOneToken() {
        fault(3, singles(12) + "var ^a 0..0;");
        fault(3, tables(8) + "^table a = 1;");
        String to400 = filler(396) + "cost 0: 1";
        fault(3, to400 + "^;");
        fault(2, to400 + "^)");
        fault(3, "var x 0..0;" + filler(393) + "var ^x");
        fault(4, "var x 0..0;" + filler(392) + "var ^x");
        fault(3, filler(397) + "cost 0: ^x;");
        fault(5, filler(396) + "cost 0: ^x;");
        fault(3, filler(399) + "cost ^7: 1;");
        fault(6, filler(398) + "cost ^7: 1;");
        fault(3, filler(399) + "soft ^7 1: 1 = 1;");
        fault(3, filler(398) + "soft 0 ^100: 1 = 1;");
        fault(6, filler(397) + "soft 0 ^100: 1 = 1;");
        fault(3, filler(398) + "rule in ^t (1);");
        fault(5, filler(397) + "rule in ^t (1);");
        fault(3, filler(397) + "var x[^9] 0..0;");
        fault(6, filler(396) + "var x[^9] 0..0;");
        fault(3, filler(398) + "var x ^1000..0;");
        fault(6, filler(397) + "var x ^1000..0;");
        fault(3, filler(397) + "var x -^1000..0;");
        fault(6, filler(396) + "var x ^-1000..0;");
        fault(3, "table t = 0, 0;" + filler(388) + "rule in t (0^);");
        fault(6, "table t = 0, 0;" + filler(387) + "rule in t ^(0);");
        fault(3, "table t = 0;" + filler(387) + "cost 0: t[0, 0^];");
        fault(6, "table t = 0;" + filler(386) + "cost 0: t^[0, 0];");
        fault(3, filler(392) + "table t = 0 | 0, 0^;");
        fault(6, filler(391) + "table t = 0 | ^0, 0;");
        fault(1, "cost 0:" + times(13, "(") + "^$");
        fault(3, "cost 0:" + times(13, "(") + "^)");
        fault(3, "cost 0:" + times(13, "(") + "^");
        fault(3, "cost 0:" + times(13, "(") + "^y");
        fault(2, "cost 0:" + times(12, "(") + "^)");
    }

    // "the first one that reading meets"

    private static void firstMet() {
        fault(6, "var x ^1000..$");
        fault(4, "var x 0..0; var ^x $");
        fault(5, "rule ^y $");
        fault(5, "rule ^y[$");
        fault(5, "rule ^y = 1 $");
        fault(6, "soft ^3 $");
        fault(2, "var x ^; $");
        fault(1, "var x 0..0; ^$ var x");
        fault(6, "var x 5..^4; var x 0..0; $");
        fault(5, "table t = 0; cost 0: t[0, ^y];");
        fault(2, "table t = 0; cost 0: t[0, 0^;");
        fault(2, "table t = 0; rule in t (0, 0^;");
        fault(3, times(16, "cost 0: 1;") + "^rule $");
        fault(4, "var x[8] 0..0; var ^x[8] 0..0;");
        fault(6, "var x[8] 0..0; var y[^9] 0..0;");
        // A text with a FAULT is told by it, though it be LARGE too.
        fault(2, "var x -999..999; var y -999..999; ^;");
    }
}
