import java.util.Arrays;

/**
 * A house for plans: problems are read from texts, plans are judged by them, and
 * questions about all plans of a problem are answered. DOC.md tells the promises.
 */
public final class SolverHouse {
    public static final int BAD = -1;
    public static final int NO = -2;
    public static final int FULL = -3;

    private static final int TAPE_BYTES = 3000;
    private static final int FEED_BYTES = 20;
    private static final int PROBLEMS = 4;
    private static final int NO_VALUE = 10000;
    private static final int NO_PAIR = 10000000;

    // The last whats of told() that are of all, of a variable, and of a rule, soft or cost.
    private static final int TOLD_LEFT = 4;
    private static final int TOLD_PINNED = 7;
    private static final int TOLD_ON = 11;
    private static final int NAME_SORTS = 3;

    private static final int MOST_VARIABLES = 12;
    private static final int MOST_OF_ROW = 8;
    private static final int MOST_TABLES = 8;
    private static final int MOST_NUMBERS = 24;
    private static final int MOST_ITEMS = 16;
    private static final int MOST_TOKENS = 400;
    private static final int MOST_AROUND = 12;
    private static final int MOST_PLANS = 20000;
    private static final int MOST_OF_RANGE = 999;
    private static final int MOST_WEIGHT = 99;
    private static final int MOST_OF_EXP = 1000000;
    private static final int LEVELS = 3;

    private static final int FAULT_STRAY = 1;
    private static final int FAULT_ORDER = 2;
    private static final int FAULT_MUCH = 3;
    private static final int FAULT_AGAIN = 4;
    private static final int FAULT_NONE = 5;
    private static final int FAULT_NUMBER = 6;
    private static final int FAULT_BASE = -10;

    // A sign of one byte is its own kind; the other kinds lie above all bytes.
    private static final int END = 256;
    private static final int STRAY = 257;
    private static final int NAME = 258;
    private static final int NUMBER = 259;
    private static final int UNEQUAL = 260;
    private static final int AT_MOST = 261;
    private static final int AT_LEAST = 262;
    private static final int DOTS = 263;
    private static final int ARROW = 264;

    // The kind of a word is WORD_BASE and its slot in WORDS, eight characters a slot.
    private static final int WORD_BASE = 300;
    private static final int WORD_SLOT = 8;
    private static final int WORD_COUNT = 19;
    private static final String WORDS =
        "var     table   rule    soft    cost    and     or      not     mod     min     max     abs     count   sum     distinctordered circuit fits    in      ";
    private static final int W_VAR = 300;
    private static final int W_TABLE = 301;
    private static final int W_RULE = 302;
    private static final int W_SOFT = 303;
    private static final int W_COST = 304;
    private static final int W_AND = 305;
    private static final int W_OR = 306;
    private static final int W_NOT = 307;
    private static final int W_MOD = 308;
    private static final int W_MIN = 309;
    private static final int W_MAX = 310;
    private static final int W_ABS = 311;
    private static final int W_COUNT = 312;
    private static final int W_SUM = 313;
    private static final int W_DISTINCT = 314;
    private static final int W_ORDERED = 315;
    private static final int W_CIRCUIT = 316;
    private static final int W_FITS = 317;
    private static final int W_IN = 318;

    private static final int KIND_RULE = 0;
    private static final int KIND_SOFT = 1;
    private static final int KIND_COST = 2;

    // A step of code holds what is done in its low bits, and what with above them.
    private static final int STEP_BITS = 6;
    private static final int STEP_MASK = 63;
    private static final int S_NUMBER = 0;
    private static final int S_VARIABLE = 1;
    private static final int S_ROW = 2;
    private static final int S_OF_ROW = 3;
    private static final int S_OF_TABLE = 4;
    private static final int S_OF_TABLE_ROW = 5;
    private static final int S_MINUS = 6;
    private static final int S_ABS = 7;
    private static final int S_NOT = 8;
    private static final int S_ADD = 9;
    private static final int S_SUBTRACT = 10;
    private static final int S_TIMES = 11;
    private static final int S_DIVIDE = 12;
    private static final int S_MOD = 13;
    private static final int S_EQUAL = 14;
    private static final int S_UNEQUAL = 15;
    private static final int S_LESS = 16;
    private static final int S_AT_MOST = 17;
    private static final int S_MORE = 18;
    private static final int S_AT_LEAST = 19;
    private static final int S_SKIP_TRUE = 20;
    private static final int S_SKIP_FALSE = 21;
    private static final int S_MIN = 22;
    private static final int S_MAX = 23;
    private static final int S_SUM = 24;
    private static final int S_COUNT = 25;
    private static final int S_DISTINCT = 26;
    private static final int S_ORDERED = 27;
    private static final int S_CIRCUIT = 28;
    private static final int S_FITS = 29;
    private static final int S_IN = 30;

    // No token makes more than two steps.
    private static final int CODE_STEPS = 810;
    // Two tokens of a list ("q ,") put at most eight numbers on the stack.
    private static final int STACK_NUMBERS = 1700;

    // What a ledger knows of a plan: four ints, of which the first is 0 when it knows
    // nothing, else KNOWN, perhaps FAILED, and a bit for each cond that is not true.
    private static final int LEDGER_STEP = 4;
    private static final int FAILED = 1 << 16;
    private static final int KNOWN = 1 << 17;

    private final byte[] tape = new byte[TAPE_BYTES];
    private final Problem[] problems = new Problem[PROBLEMS];
    private final Reader reader = new Reader();
    private final Search search = new Search();
    private int length;
    private int faultPlace = NO;

    public SolverHouse() {
    }

    public int feed(int a, int b, int c, int d, int e) {
        if (length + FEED_BYTES > TAPE_BYTES) {
            return FULL;
        }
        append(a);
        append(b);
        append(c);
        append(d);
        append(e);
        return length;
    }

    private void append(int four) {
        for (int shift = 24; shift >= 0 && length < TAPE_BYTES; shift -= 8) {
            tape[length] = (byte) (four >> shift);
            length++;
        }
    }

    public int cut(int n) {
        if (n < 0 || n > length) {
            return BAD;
        }
        length -= n;
        return length;
    }

    public int problem(int p) {
        if (p < 0 || p >= PROBLEMS) {
            return BAD;
        }
        int bytes = length;
        length = 0;
        faultPlace = NO;
        if (!reader.read(tape, bytes)) {
            faultPlace = reader.faultPlace;
            return FAULT_BASE - reader.fault;
        }
        if (reader.isLarge()) {
            return FULL;
        }
        Problem fresh = reader.handOver(problems[p]);
        problems[p] = fresh;
        return fresh.space;
    }

    public int place() {
        return faultPlace;
    }

    private Problem problemAt(int p) {
        return p < 0 || p >= PROBLEMS ? null : problems[p];
    }

    private static int lacking(int p) {
        return p < 0 || p >= PROBLEMS ? BAD : NO;
    }

    public int told(int p, int what, int k) {
        // What no problem ever tells is BAD, whether there is a problem now or not.
        if (what < 0 || what > TOLD_ON) {
            return BAD;
        }
        Problem q = problemAt(p);
        if (q == null) {
            return lacking(p);
        }
        if (what <= TOLD_LEFT) {
            return toldOfAll(q, what);
        }
        if (what <= TOLD_PINNED) {
            return toldOfVariable(q, what, k);
        }
        return toldOfItem(q.rules, what, k);
    }

    private static int toldOfAll(Problem q, int what) {
        switch (what) {
            case 0: return q.variables;
            case 1: return q.tables.count;
            case 2: return q.rules.count;
            case 3: return q.space;
            default: return q.plansLeft();
        }
    }

    private static int toldOfVariable(Problem q, int what, int k) {
        if (!q.hasVariable(k)) {
            return BAD;
        }
        switch (what) {
            case 5: return q.least[k];
            case 6: return q.greatest[k];
            default: return q.pinned[k];
        }
    }

    private static int toldOfItem(Rules rules, int what, int k) {
        if (!rules.has(k)) {
            return BAD;
        }
        switch (what) {
            case 8: return rules.kinds[k];
            case 9: return rules.levels[k];
            case 10: return rules.weights[k];
            default: return rules.isOn(k) ? 1 : 0;
        }
    }

    public int name(int p, int sort, int k, int i) {
        if (sort < 0 || sort >= NAME_SORTS) {
            return BAD;
        }
        Problem q = problemAt(p);
        if (q == null) {
            return lacking(p);
        }
        long text = 0;
        if (sort == 0 && q.hasVariable(k)) {
            text = q.names[k];
        } else if (sort == 1 && q.tables.has(k)) {
            text = q.tables.names[k];
        } else if (sort == 2 && q.rules.has(k)) {
            text = q.rules.names[k];
        }
        return byteOf(text, i);
    }

    /** A name is packed into a long, its last byte lowest; 0 is no name at all. */
    private static int byteOf(long text, int i) {
        int bytes = 0;
        for (long rest = text; bytes < WORD_SLOT && rest != 0; rest >>>= 8) {
            bytes++;
        }
        if (i < 0 || i >= bytes) {
            return BAD;
        }
        return (int) (text >>> 8 * (bytes - 1 - i)) & 255;
    }

    public int turn(int p, int k, boolean on) {
        Problem q = problemAt(p);
        if (q == null) {
            return lacking(p);
        }
        if (!q.rules.has(k)) {
            return BAD;
        }
        boolean was = q.rules.isOn(k);
        q.rules.setOn(k, on);
        // The ledger knows of each rule whether it holds, but levels only summed up.
        if (was != on && q.rules.kinds[k] != KIND_RULE) {
            q.ledger.forget();
        }
        return was ? 1 : 0;
    }

    public int pin(int p, int k, int v) {
        Problem q = problemAt(p);
        if (q == null) {
            return lacking(p);
        }
        if (!q.hasVariable(k)) {
            return BAD;
        }
        boolean fit = q.hasValue(k, v);
        q.pinned[k] = fit ? v : NO_VALUE;
        return fit ? 1 : 0;
    }

    public int plan(int p, int k, int v) {
        Problem q = problemAt(p);
        if (q == null) {
            return lacking(p);
        }
        if (!q.hasValue(k, v)) {
            return BAD;
        }
        q.chosen[k] = v;
        return 1;
    }

    public int value(int p, int k) {
        Problem q = problemAt(p);
        return q != null && q.hasVariable(k) ? q.chosen[k] : NO_VALUE;
    }

    public int judge(int p) {
        Problem q = problemAt(p);
        return q == null ? lacking(p) : search.weighChosen(q);
    }

    public int score(int what) {
        if (what < 0 || what >= search.judgement.length) {
            return BAD;
        }
        return search.judged ? search.judgement[what] : NO;
    }

    public int best(int p) {
        Problem q = problemAt(p);
        return q == null ? lacking(p) : search.chooseBest(q);
    }

    public int allowed(int p) {
        Problem q = problemAt(p);
        return q == null ? lacking(p) : search.countAllowed(q);
    }

    public int fails(int p) {
        Problem q = problemAt(p);
        return q == null ? lacking(p) : search.countFailing(q);
    }

    public int front(int p, int a, int b) {
        if (a < 0 || a >= LEVELS || b < 0 || b >= LEVELS || a == b) {
            return BAD;
        }
        Problem q = problemAt(p);
        return q == null ? lacking(p) : search.findFront(q, a, b);
    }

    public int pair(int i, int which) {
        return search.front.number(i, which);
    }

    public int core(int p) {
        Problem q = problemAt(p);
        return q == null ? lacking(p) : search.findCore(q);
    }

    public int nearest(int p) {
        Problem q = problemAt(p);
        return q == null ? lacking(p) : search.chooseNearest(q);
    }

    public int settled(int p) {
        Problem q = problemAt(p);
        return q == null ? lacking(p) : search.findSettled(q);
    }

    public int having(int p, int k, int v) {
        Problem q = problemAt(p);
        if (q == null) {
            return lacking(p);
        }
        if (!q.hasValue(k, v)) {
            return BAD;
        }
        return search.countHaving(q, k, v);
    }

    /** The tokens of a text, up to one more than a problem may have. */
    private static final class Tokens {
        final int[] kinds = new int[MOST_TOKENS + 1];
        final int[] starts = new int[MOST_TOKENS + 1];
        final long[] texts = new long[MOST_TOKENS + 1];
        int count;
        int textEnd;
        private byte[] bytes = new byte[0];
        private int at;

        /** Nothing behind a stray byte can be asked for, so the scan stops there. */
        void scan(byte[] tape, int length) {
            bytes = tape;
            textEnd = Math.max(0, Math.min(length, tape.length));
            at = 0;
            count = 0;
            boolean more = true;
            for (int n = 0; n < kinds.length && more; n++) {
                skipBlanks();
                more = at < textEnd;
                if (more) {
                    scanToken();
                    more = kinds[n] != STRAY;
                }
            }
        }

        int kind(int token) {
            return token >= 0 && token < count ? kinds[token] : END;
        }

        int start(int token) {
            return token >= 0 && token < count ? starts[token] : textEnd;
        }

        long text(int token) {
            return token >= 0 && token < count ? texts[token] : 0;
        }

        private int byteAt(int i) {
            return i >= 0 && i < textEnd ? bytes[i] & 255 : END;
        }

        private void skipBlanks() {
            boolean remark = false;
            for (; at < textEnd; at++) {
                int b = byteAt(at);
                if (b == '#') {
                    remark = true;
                } else if (b == 10) {
                    remark = false;
                } else if (!remark && b != 9 && b != 13 && b != 32) {
                    return;
                }
            }
        }

        private void scanToken() {
            int b = byteAt(at);
            if (isLetter(b)) {
                scanName();
            } else if (isDigit(b)) {
                scanNumber();
            } else {
                scanSign(b);
            }
        }

        private static boolean isLetter(int b) {
            return b >= 'a' && b <= 'z' || b >= 'A' && b <= 'Z';
        }

        private static boolean isDigit(int b) {
            return b >= '0' && b <= '9';
        }

        private void note(int kind, long text, int size) {
            if (count < kinds.length) {
                kinds[count] = kind;
                starts[count] = at;
                texts[count] = text;
                count++;
                at += size;
            }
        }

        private void scanName() {
            int size = 0;
            long text = 0;
            for (int i = at; i < textEnd && (isLetter(byteAt(i)) || isDigit(byteAt(i))); i++) {
                text = text << 8 | byteAt(i);
                size++;
            }
            note(size > WORD_SLOT ? STRAY : wordOrName(size), text, size);
        }

        private int wordOrName(int size) {
            for (int w = 0; w < WORD_COUNT; w++) {
                if (isWord(w, size)) {
                    return WORD_BASE + w;
                }
            }
            return NAME;
        }

        private boolean isWord(int w, int size) {
            for (int i = 0; i < WORD_SLOT; i++) {
                int mine = i < size ? byteAt(at + i) : ' ';
                if (WORDS.charAt(w * WORD_SLOT + i) != mine) {
                    return false;
                }
            }
            return true;
        }

        private void scanNumber() {
            int size = 0;
            long number = 0;
            for (int i = at; i < textEnd && isDigit(byteAt(i)); i++) {
                number = size < 4 ? number * 10 + (byteAt(i) - '0') : number;
                size++;
            }
            note(size > 4 ? STRAY : NUMBER, number, size);
        }

        private void scanSign(int b) {
            int next = byteAt(at + 1);
            if (b == '!' && next == '=') {
                note(UNEQUAL, 0, 2);
            } else if (b == '<' && next == '=') {
                note(AT_MOST, 0, 2);
            } else if (b == '>' && next == '=') {
                note(AT_LEAST, 0, 2);
            } else if (b == '.' && next == '.') {
                note(DOTS, 0, 2);
            } else if (b == '-' && next == '>') {
                note(ARROW, 0, 2);
            } else {
                note(isSign(b) ? b : STRAY, 0, 1);
            }
        }

        private static boolean isSign(int b) {
            switch (b) {
                case '+': case '-': case '*': case '/':
                case '(': case ')': case '[': case ']': case '{': case '}':
                case ',': case ';': case ':': case '|':
                case '=': case '<': case '>':
                    return true;
                default:
                    return false;
            }
        }
    }

    /** Reads a text by the grammar into a spare problem, up to the first fault. */
    private static final class Reader {
        int fault;
        int faultPlace;
        private final Tokens tokens = new Tokens();
        private Problem spare = new Problem();
        private int at;

        boolean read(byte[] tape, int length) {
            tokens.scan(tape, length);
            spare.clear();
            fault = 0;
            faultPlace = NO;
            at = 0;
            boolean fine = true;
            for (int n = 0; n <= MOST_TOKENS && fine && kind() != END; n++) {
                switch (kind()) {
                    case W_VAR: fine = varItem(); break;
                    case W_TABLE: fine = tableItem(); break;
                    case W_RULE: fine = ruleItem(); break;
                    case W_SOFT: fine = softItem(); break;
                    case W_COST: fine = costItem(); break;
                    default: fine = stop(); break;
                }
            }
            if (fine) {
                spare.measure();
            }
            return fine;
        }

        boolean isLarge() {
            return spare.space > MOST_PLANS;
        }

        /** What was read goes out; the problem that it replaces is the next spare one. */
        Problem handOver(Problem old) {
            Problem done = spare;
            done.begin();
            spare = old == null ? new Problem() : old;
            return done;
        }

        private int kind() {
            return tokens.kind(at);
        }

        private int start() {
            return tokens.start(at);
        }

        private boolean refuse(int what, int where) {
            fault = what;
            faultPlace = where;
            return false;
        }

        /** The token here can't stand here. */
        private boolean stop() {
            return refuse(tokens.kind(at) == STRAY ? FAULT_STRAY : FAULT_ORDER, tokens.start(at));
        }

        /** What begins here stands within too many others. */
        private boolean stopDeep() {
            return refuse(tokens.kind(at) == STRAY ? FAULT_STRAY : FAULT_MUCH, tokens.start(at));
        }

        /** Takes the token here, which has been looked at. */
        private boolean next() {
            if (at >= MOST_TOKENS) {
                return refuse(FAULT_MUCH, tokens.start(at));
            }
            at++;
            return true;
        }

        /** Takes the token here when it is of this kind. */
        private boolean take(int kind) {
            int here = tokens.kind(at);
            int found = here == STRAY ? FAULT_STRAY : FAULT_ORDER;
            if (here == kind) {
                found = FAULT_MUCH;
                if (at < MOST_TOKENS) {
                    at++;
                    return true;
                }
            }
            return refuse(found, tokens.start(at));
        }

        /** Takes a NAME that isn't told yet. */
        private boolean newName() {
            int where = start();
            long text = tokens.text(at);
            if (!take(NAME)) {
                return false;
            }
            return spare.knows(text) ? refuse(FAULT_AGAIN, where) : true;
        }

        /** Takes a NUMBER of a range. */
        private boolean numberWithin(int least, int greatest) {
            int where = start();
            long number = tokens.text(at);
            if (!take(NUMBER)) {
                return false;
            }
            return number < least || number > greatest ? refuse(FAULT_NUMBER, where) : true;
        }

        private boolean integer() {
            return kind() != '-' || next() ? take(NUMBER) : false;
        }

        /** The INT that begins at this token and has been taken. */
        private int integerAt(int token) {
            int sign = tokens.kind(token) == '-' ? -1 : 1;
            return sign * (int) tokens.text(sign < 0 ? token + 1 : token);
        }

        private boolean varItem() {
            if (!next()) {
                return false;
            }
            int nameAt = at;
            if (kind() == NAME && spare.variables >= MOST_VARIABLES) {
                return refuse(FAULT_MUCH, start());
            }
            if (!newName()) {
                return false;
            }
            int size = 0;
            if (kind() == '[') {
                size = rowSize(nameAt);
                if (size < 1) {
                    return false;
                }
            }
            return range(nameAt, size);
        }

        /** Takes INT .. INT ; where each INT's fault is met at itself, and a first above the second at the second. */
        private boolean range(int nameAt, int size) {
            int first = at;
            if (!rangeEnd(-MOST_OF_RANGE, MOST_OF_RANGE) || !take(DOTS)) {
                return false;
            }
            int second = at;
            if (!rangeEnd(integerAt(first), MOST_OF_RANGE) || !take(';')) {
                return false;
            }
            spare.addVariables(tokens.text(nameAt), size, integerAt(first), integerAt(second));
            return true;
        }

        private boolean rangeEnd(int least, int greatest) {
            int begin = at;
            if (!integer()) {
                return false;
            }
            int number = integerAt(begin);
            return number < least || number > greatest ? refuse(FAULT_NUMBER, tokens.start(begin)) : true;
        }

        /** Takes [ NUMBER ]: the number, 0 with a fault. */
        private int rowSize(int nameAt) {
            if (!next()) {
                return 0;
            }
            int size = (int) tokens.text(at);
            if (!numberWithin(1, MOST_OF_ROW)) {
                return 0;
            }
            if (spare.variables + size > MOST_VARIABLES) {
                refuse(FAULT_MUCH, tokens.start(nameAt));
                return 0;
            }
            return take(']') ? size : 0;
        }

        private boolean tableItem() {
            if (spare.tables.count >= MOST_TABLES) {
                return refuse(FAULT_MUCH, start());
            }
            if (!next()) {
                return false;
            }
            long text = tokens.text(at);
            if (!newName() || !take('=')) {
                return false;
            }
            spare.tables.begin(text);
            for (int n = 0; n < MOST_TOKENS; n++) {
                int first = start();
                if (!tableRow()) {
                    return false;
                }
                boolean last = kind() == ';';
                if (!last && kind() != '|') {
                    return stop();
                }
                if (!next()) {
                    return false;
                }
                if (!spare.tables.endRow()) {
                    return refuse(FAULT_NUMBER, first);
                }
                if (last) {
                    spare.tables.end();
                    return true;
                }
            }
            return stop();
        }

        private boolean tableRow() {
            for (int n = 0; n < MOST_TOKENS; n++) {
                int begin = at;
                if (!integer()) {
                    return false;
                }
                if (!spare.tables.add(integerAt(begin))) {
                    return refuse(FAULT_MUCH, tokens.start(begin));
                }
                if (kind() != ',') {
                    return true;
                }
                if (!next()) {
                    return false;
                }
            }
            return stop();
        }

        /** Takes the word with which a rule, soft or cost begins. */
        private boolean itemWord() {
            return spare.rules.count >= MOST_ITEMS ? refuse(FAULT_MUCH, start()) : next();
        }

        private boolean ruleItem() {
            if (!itemWord()) {
                return false;
            }
            long text = 0;
            if (kind() == NAME && tokens.kind(at + 1) == ':') {
                text = tokens.text(at);
                if (!newName() || !take(':')) {
                    return false;
                }
            }
            if (!cond(0) || !take(';')) {
                return false;
            }
            spare.rules.add(KIND_RULE, 0, 0, text);
            return true;
        }

        private boolean softItem() {
            if (!itemWord()) {
                return false;
            }
            int level = (int) tokens.text(at);
            if (!numberWithin(0, LEVELS - 1)) {
                return false;
            }
            int weight = (int) tokens.text(at);
            if (!numberWithin(1, MOST_WEIGHT) || !take(':') || !cond(0) || !take(';')) {
                return false;
            }
            spare.rules.add(KIND_SOFT, level, weight, 0);
            return true;
        }

        private boolean costItem() {
            if (!itemWord()) {
                return false;
            }
            int level = (int) tokens.text(at);
            if (!numberWithin(0, LEVELS - 1) || !take(':') || !exp(0) || !take(';')) {
                return false;
            }
            spare.rules.add(KIND_COST, level, 0, 0);
            return true;
        }

        private void emit(int step, int with) {
            spare.rules.emit(step, with);
        }

        /**
         * a -> b is not a or b. Each skip lands on the next skip, which a true goes on
         * through, so that a chain needs no recursion though its last ones join first.
         */
        private boolean cond(int depth) {
            if (!clause(depth)) {
                return false;
            }
            int open = -1;
            for (int n = 0; n < MOST_TOKENS && kind() == ARROW; n++) {
                if (!next()) {
                    return false;
                }
                emit(S_NOT, 0);
                spare.rules.land(open);
                open = spare.rules.emit(S_SKIP_TRUE, 0);
                if (!clause(depth)) {
                    return false;
                }
            }
            spare.rules.land(open);
            return true;
        }

        private boolean clause(int depth) {
            if (!term(depth)) {
                return false;
            }
            int open = -1;
            for (int n = 0; n < MOST_TOKENS && kind() == W_OR; n++) {
                if (!next()) {
                    return false;
                }
                spare.rules.land(open);
                open = spare.rules.emit(S_SKIP_TRUE, 0);
                if (!term(depth)) {
                    return false;
                }
            }
            spare.rules.land(open);
            return true;
        }

        private boolean term(int depth) {
            if (!fact(depth)) {
                return false;
            }
            int open = -1;
            for (int n = 0; n < MOST_TOKENS && kind() == W_AND; n++) {
                if (!next()) {
                    return false;
                }
                spare.rules.land(open);
                open = spare.rules.emit(S_SKIP_FALSE, 0);
                if (!fact(depth)) {
                    return false;
                }
            }
            spare.rules.land(open);
            return true;
        }

        private boolean fact(int depth) {
            if (depth > MOST_AROUND) {
                return stopDeep();
            }
            switch (kind()) {
                case W_NOT:
                    if (!next() || !fact(depth + 1)) {
                        return false;
                    }
                    emit(S_NOT, 0);
                    return true;
                case '{':
                    return next() && cond(depth + 1) && take('}');
                case W_DISTINCT:
                    return listOf(S_DISTINCT, depth);
                case W_ORDERED:
                    return listOf(S_ORDERED, depth);
                case W_CIRCUIT:
                    return listOf(S_CIRCUIT, depth);
                case W_FITS:
                    return fits(depth);
                case W_IN:
                    return inTable(depth);
                default:
                    return comparison(depth);
            }
        }

        private boolean comparison(int depth) {
            if (!exp(depth)) {
                return false;
            }
            int relation = relationStep(kind());
            if (relation < 0) {
                return stop();
            }
            if (!next() || !exp(depth)) {
                return false;
            }
            emit(relation, 0);
            return true;
        }

        private static int relationStep(int kind) {
            switch (kind) {
                case '=': return S_EQUAL;
                case UNEQUAL: return S_UNEQUAL;
                case '<': return S_LESS;
                case AT_MOST: return S_AT_MOST;
                case '>': return S_MORE;
                case AT_LEAST: return S_AT_LEAST;
                default: return -1;
            }
        }

        private boolean fits(int depth) {
            if (!next() || !take('(')) {
                return false;
            }
            int tasks = 0;
            for (int n = 0; n < MOST_TOKENS; n++) {
                if (!exp(depth + 1)) {
                    return false;
                }
                // Behind the first task only the sign behind an exp tells whether it begins one.
                if (tasks > 0 && kind() != ',') {
                    emit(S_FITS, tasks);
                    return take(')');
                }
                boolean task = take(',') && exp(depth + 1) && take(',') && exp(depth + 1) && take('|');
                if (!task) {
                    return false;
                }
                tasks++;
            }
            return stop();
        }

        private boolean inTable(int depth) {
            if (!next()) {
                return false;
            }
            int where = start();
            int table = spare.tables.find(tokens.text(at));
            if (!take(NAME)) {
                return false;
            }
            if (!spare.tables.has(table)) {
                return refuse(FAULT_NONE, where);
            }
            int sign = start();
            if (!take('(')) {
                return false;
            }
            int size = elements(depth + 1);
            if (size < 0 || !take(')')) {
                return false;
            }
            if (size != spare.tables.widths[table]) {
                return refuse(FAULT_NUMBER, sign);
            }
            emit(S_IN, table);
            return true;
        }

        /** Takes a word with a list behind it. */
        private boolean listOf(int step, int depth) {
            if (!next() || !take('(')) {
                return false;
            }
            int size = elements(depth + 1);
            if (size < 0 || !take(')')) {
                return false;
            }
            emit(step, size);
            return true;
        }

        /** Takes exps and rows with , between: how many numbers they are, -1 with a fault. */
        private int elements(int depth) {
            int size = 0;
            for (int n = 0; n < MOST_TOKENS; n++) {
                int more = element(depth);
                if (more < 0) {
                    return -1;
                }
                size += more;
                if (kind() != ',') {
                    return size;
                }
                if (!next()) {
                    return -1;
                }
            }
            return -1;
        }

        private int element(int depth) {
            if (depth > MOST_AROUND) {
                stopDeep();
                return -1;
            }
            int row = rowAlone();
            if (row < 0) {
                return exp(depth) ? 1 : -1;
            }
            if (!next()) {
                return -1;
            }
            emit(S_ROW, row);
            return spare.rowSizes[row];
        }

        /** The first variable of the row that stands alone here, -1 when none does. */
        private int rowAlone() {
            int next = tokens.kind(at + 1);
            if (tokens.kind(at) != NAME || next != ',' && next != ')' && next != '|') {
                return -1;
            }
            int row = spare.findVariable(tokens.text(at));
            return spare.hasVariable(row) && spare.rowSizes[row] > 0 ? row : -1;
        }

        private boolean exp(int depth) {
            if (!product(depth)) {
                return false;
            }
            for (int n = 0; n < MOST_TOKENS && (kind() == '+' || kind() == '-'); n++) {
                int step = kind() == '+' ? S_ADD : S_SUBTRACT;
                if (!next() || !product(depth)) {
                    return false;
                }
                emit(step, 0);
            }
            return true;
        }

        private boolean product(int depth) {
            if (!unit(depth)) {
                return false;
            }
            int step = productStep(kind());
            for (int n = 0; n < MOST_TOKENS && step >= 0; n++) {
                if (!next() || !unit(depth)) {
                    return false;
                }
                emit(step, 0);
                step = productStep(kind());
            }
            return true;
        }

        private static int productStep(int kind) {
            switch (kind) {
                case '*': return S_TIMES;
                case '/': return S_DIVIDE;
                case W_MOD: return S_MOD;
                default: return -1;
            }
        }

        private boolean unit(int depth) {
            if (depth > MOST_AROUND) {
                return stopDeep();
            }
            switch (kind()) {
                case '-':
                    if (!next() || !unit(depth + 1)) {
                        return false;
                    }
                    emit(S_MINUS, 0);
                    return true;
                case NUMBER:
                    emit(S_NUMBER, (int) tokens.text(at));
                    return next();
                case NAME:
                    return named(depth);
                case '(':
                    return next() && exp(depth + 1) && take(')');
                case W_MIN:
                    return listOf(S_MIN, depth);
                case W_MAX:
                    return listOf(S_MAX, depth);
                case W_SUM:
                    return listOf(S_SUM, depth);
                case W_ABS:
                    if (!next() || !take('(') || !exp(depth + 1) || !take(')')) {
                        return false;
                    }
                    emit(S_ABS, 0);
                    return true;
                case W_COUNT:
                    return count(depth);
                default:
                    return stop();
            }
        }

        private boolean count(int depth) {
            if (!next() || !take('(')) {
                return false;
            }
            int size = elements(depth + 1);
            if (size < 0 || !take('|') || !exp(depth + 1) || !take(')')) {
                return false;
            }
            emit(S_COUNT, size);
            return true;
        }

        /** Takes a variable, or a row or table with [ ] behind it. */
        private boolean named(int depth) {
            int where = start();
            long text = tokens.text(at);
            boolean indexed = tokens.kind(at + 1) == '[';
            if (!next()) {
                return false;
            }
            int variable = spare.findVariable(text);
            int table = spare.tables.find(text);
            if (spare.hasVariable(variable)) {
                boolean row = spare.rowSizes[variable] > 0;
                if (row != indexed) {
                    return refuse(FAULT_NONE, where);
                }
                if (row) {
                    return indexes(depth, 1, S_OF_ROW, variable);
                }
                emit(S_VARIABLE, variable);
                return true;
            }
            if (!indexed || !spare.tables.has(table)) {
                return refuse(FAULT_NONE, where);
            }
            return spare.tables.rows[table] > 1
                ? indexes(depth, 2, S_OF_TABLE_ROW, table)
                : indexes(depth, 1, S_OF_TABLE, table);
        }

        private boolean indexes(int depth, int due, int step, int with) {
            int sign = start();
            if (!take('[')) {
                return false;
            }
            int size = 1;
            boolean fine = exp(depth + 1);
            for (int n = 0; n < MOST_TOKENS && fine && kind() == ','; n++) {
                fine = next() && exp(depth + 1);
                size++;
            }
            if (!fine || !take(']')) {
                return false;
            }
            if (size != due) {
                return refuse(FAULT_NUMBER, sign);
            }
            emit(step, with);
            return true;
        }
    }

    /** A problem: its variables, what they are pinned to and the plan that it holds. */
    private static final class Problem {
        final long[] names = new long[MOST_VARIABLES];
        final int[] rowSizes = new int[MOST_VARIABLES];
        final int[] least = new int[MOST_VARIABLES];
        final int[] greatest = new int[MOST_VARIABLES];
        final int[] strides = new int[MOST_VARIABLES];
        final int[] pinned = new int[MOST_VARIABLES];
        final int[] chosen = new int[MOST_VARIABLES];
        final Tables tables = new Tables();
        final Rules rules = new Rules();
        final Ledger ledger = new Ledger();
        int variables;
        int space;

        void clear() {
            variables = 0;
            space = 1;
            tables.count = 0;
            rules.clear();
        }

        boolean hasVariable(int k) {
            return k >= 0 && k < variables;
        }

        boolean hasValue(int k, int v) {
            return hasVariable(k) && v >= least[k] && v <= greatest[k];
        }

        /** The variable of this name, of a row its first; -1 when there is none. */
        int findVariable(long text) {
            for (int k = 0; k < variables; k++) {
                if (names[k] == text) {
                    return k;
                }
            }
            return -1;
        }

        boolean knows(long text) {
            return findVariable(text) >= 0 || tables.find(text) >= 0 || rules.bears(text);
        }

        /** One variable when size is 0, else a row of so many. */
        void addVariables(long text, int size, int from, int to) {
            int more = Math.max(1, size);
            for (int n = 0; n < more && variables < MOST_VARIABLES; n++) {
                names[variables] = text;
                rowSizes[variables] = size;
                least[variables] = from;
                greatest[variables] = to;
                variables++;
            }
        }

        /** Finds the space; it stays just above what is taken when it is larger. */
        void measure() {
            long plans = 1;
            for (int k = variables - 1; k >= 0; k--) {
                strides[k] = (int) plans;
                plans = Math.min(plans * (greatest[k] - least[k] + 1), MOST_PLANS + 1);
            }
            space = (int) plans;
        }

        void begin() {
            for (int k = 0; k < variables; k++) {
                pinned[k] = NO_VALUE;
                chosen[k] = least[k];
            }
            rules.setAllOn();
            ledger.forget();
        }

        int plansLeft() {
            int left = 1;
            for (int k = 0; k < variables; k++) {
                left *= pinned[k] == NO_VALUE ? greatest[k] - least[k] + 1 : 1;
            }
            return left;
        }
    }

    /** The tables of a problem. */
    private static final class Tables {
        final long[] names = new long[MOST_TABLES];
        final int[] widths = new int[MOST_TABLES];
        final int[] rows = new int[MOST_TABLES];
        final int[] numbers = new int[MOST_TABLES * MOST_NUMBERS];
        int count;
        private int size;
        private int rowBegin;

        boolean has(int t) {
            return t >= 0 && t < count;
        }

        int find(long text) {
            for (int t = 0; t < count; t++) {
                if (names[t] == text) {
                    return t;
                }
            }
            return -1;
        }

        /** Begins a table that doesn't count before its end. */
        void begin(long text) {
            if (count < MOST_TABLES) {
                names[count] = text;
                widths[count] = 0;
                rows[count] = 0;
            }
            size = 0;
            rowBegin = 0;
        }

        boolean add(int number) {
            if (count >= MOST_TABLES || size >= MOST_NUMBERS) {
                return false;
            }
            numbers[count * MOST_NUMBERS + size] = number;
            size++;
            return true;
        }

        /** Whether the row is as long as the ones before. */
        boolean endRow() {
            int width = size - rowBegin;
            if (count >= MOST_TABLES || rows[count] > 0 && width != widths[count]) {
                return false;
            }
            widths[count] = width;
            rows[count]++;
            rowBegin = size;
            return true;
        }

        void end() {
            if (count < MOST_TABLES) {
                count++;
            }
        }

        /** Where number i of row r of table t lies, -1 when there is nothing. */
        int spot(int t, int r, int i) {
            if (t < 0 || t >= count || r < 0 || r >= rows[t] || i < 0 || i >= widths[t]) {
                return -1;
            }
            return t * MOST_NUMBERS + r * widths[t] + i;
        }
    }

    /** The rules, softs and costs of a problem and their code, one behind the other. */
    private static final class Rules {
        final int[] kinds = new int[MOST_ITEMS];
        final int[] levels = new int[MOST_ITEMS];
        final int[] weights = new int[MOST_ITEMS];
        final long[] names = new long[MOST_ITEMS];
        final int[] code = new int[CODE_STEPS];
        int count;
        private final int[] ends = new int[MOST_ITEMS];
        private int steps;
        private int on;
        private int ruleBits;

        void clear() {
            count = 0;
            steps = 0;
            on = 0;
            ruleBits = 0;
        }

        boolean has(int k) {
            return k >= 0 && k < count;
        }

        boolean bears(long text) {
            for (int k = 0; k < count; k++) {
                if (names[k] == text) {
                    return true;
                }
            }
            return false;
        }

        /** The steps told since the item before are this one's code. */
        void add(int kind, int level, int weight, long text) {
            if (count < MOST_ITEMS) {
                kinds[count] = kind;
                levels[count] = level;
                weights[count] = weight;
                names[count] = text;
                ends[count] = steps;
                ruleBits |= kind == KIND_RULE ? 1 << count : 0;
                count++;
            }
        }

        int emit(int step, int with) {
            if (steps >= CODE_STEPS) {
                return -1;
            }
            code[steps] = with << STEP_BITS | step;
            steps++;
            return steps - 1;
        }

        /** The skip at this step leads to the step that comes next. */
        void land(int skip) {
            if (skip >= 0 && skip < steps) {
                code[skip] |= (steps - skip - 1) << STEP_BITS;
            }
        }

        int codeBegin(int k) {
            return k > 0 && k < count ? ends[k - 1] : 0;
        }

        int codeEnd(int k) {
            return has(k) ? ends[k] : 0;
        }

        boolean isOn(int k) {
            return (on >> k & 1) != 0;
        }

        void setOn(int k, boolean now) {
            on = now ? on | 1 << k : on & ~(1 << k);
        }

        void setAllOn() {
            on = (1 << count) - 1;
        }

        /** The rules (no softs, no costs) that are on, as bits. */
        int rulesOn() {
            return on & ruleBits;
        }
    }

    /** What is known already of a problem's plans, so that no question weighs one twice. */
    private static final class Ledger {
        int[] rows = new int[0];
        private boolean open;

        void forget() {
            open = false;
        }

        /** Rows grow by doubling, so that all that were ever made stay a small part of the room. */
        void open(int space) {
            if (open) {
                return;
            }
            int need = Math.max(0, Math.min(space, MOST_PLANS)) * LEDGER_STEP;
            if (rows.length < need) {
                int twice = Math.min(rows.length * 2, MOST_PLANS * LEDGER_STEP);
                rows = new int[Math.max(need, twice)];
            } else {
                Arrays.fill(rows, 0, need, 0);
            }
            open = true;
        }

        boolean covers(int at) {
            return at >= 0 && at <= rows.length - LEDGER_STEP;
        }

        void note(int at, int state, int[] levels) {
            if (covers(at) && levels.length >= LEVELS) {
                rows[at] = state;
                System.arraycopy(levels, 0, rows, at + 1, LEVELS);
            }
        }
    }

    /** Runs the code of rules, softs and costs on the values of a plan. */
    private static final class Machine {
        final int[] levels = new int[LEVELS];
        int failedAt;
        int untrue;
        private final int[] stack = new int[STACK_NUMBERS];
        private int top;
        private boolean failed;

        /** Looks at all items in order, up to the first that FAILS. */
        void weigh(Problem q, int[] values) {
            Arrays.fill(levels, 0);
            failedAt = -1;
            untrue = 0;
            Rules rules = q.rules;
            for (int k = 0; k < rules.count && failedAt < 0; k++) {
                int result = run(q, values, k);
                if (failed) {
                    failedAt = k;
                } else if (rules.kinds[k] == KIND_COST) {
                    addTo(rules, k, result);
                } else if (result == 0) {
                    untrue |= 1 << k;
                    addTo(rules, k, rules.weights[k]);
                }
            }
            if (failedAt >= 0) {
                Arrays.fill(levels, 0);
            }
        }

        private void addTo(Rules rules, int k, int amount) {
            int level = rules.levels[k];
            if (rules.isOn(k) && level >= 0 && level < LEVELS) {
                levels[level] += amount;
            }
        }

        private int run(Problem q, int[] values, int item) {
            int[] code = q.rules.code;
            int end = Math.min(q.rules.codeEnd(item), code.length);
            top = 0;
            failed = false;
            for (int at = q.rules.codeBegin(item); at < end && !failed; at++) {
                int step = code[at] & STEP_MASK;
                int with = code[at] >>> STEP_BITS;
                if (step <= S_ROW) {
                    pushVariables(q, values, step, with);
                } else if (step <= S_OF_TABLE_ROW) {
                    pushIndexed(q, values, step, with);
                } else if (step <= S_NOT) {
                    change(step);
                } else if (step <= S_MOD) {
                    reckon(step);
                } else if (step <= S_AT_LEAST) {
                    compare(step);
                } else if (step <= S_SKIP_FALSE) {
                    at += skipped(step == S_SKIP_TRUE, with);
                } else if (step <= S_COUNT) {
                    gather(step, with);
                } else {
                    testList(q, step, with);
                }
            }
            return pop();
        }

        private void push(int number) {
            if (top < STACK_NUMBERS) {
                stack[top] = number;
                top++;
            } else {
                failed = true;
            }
        }

        private int pop() {
            if (top <= 0) {
                return 0;
            }
            top--;
            return stack[top];
        }

        /** What an operation gives, which FAILS beyond what exps may be. */
        private void give(long number) {
            if (isBeyond(number)) {
                failed = true;
            } else {
                push((int) number);
            }
        }

        private static boolean isBeyond(long number) {
            return number < -MOST_OF_EXP || number > MOST_OF_EXP;
        }

        /** A cond that settles it stays on the stack for what is skipped. */
        private int skipped(boolean settling, int steps) {
            boolean truth = pop() != 0;
            if (truth != settling) {
                return 0;
            }
            push(truth ? 1 : 0);
            return steps;
        }

        private void pushVariables(Problem q, int[] values, int step, int with) {
            if (step == S_NUMBER) {
                push(with);
                return;
            }
            if (!q.hasVariable(with)) {
                failed = true;
                return;
            }
            int size = step == S_ROW ? q.rowSizes[with] : 1;
            int end = Math.min(with + size, values.length);
            for (int k = with; k < end; k++) {
                push(values[k]);
            }
        }

        private void pushIndexed(Problem q, int[] values, int step, int with) {
            int place = pop();
            if (step == S_OF_ROW) {
                boolean there = q.hasVariable(with) && place >= 0 && place < q.rowSizes[with]
                    && with + place < values.length;
                if (there) {
                    push(values[with + place]);
                } else {
                    failed = true;
                }
                return;
            }
            int row = step == S_OF_TABLE_ROW ? pop() : 0;
            int spot = q.tables.spot(with, row, place);
            if (spot >= 0 && spot < q.tables.numbers.length) {
                push(q.tables.numbers[spot]);
            } else {
                failed = true;
            }
        }

        private void change(int step) {
            int number = pop();
            switch (step) {
                case S_MINUS:
                    push(-number);
                    break;
                case S_ABS:
                    push(Math.abs(number));
                    break;
                default:
                    push(number == 0 ? 1 : 0);
                    break;
            }
        }

        private void reckon(int step) {
            int b = pop();
            int a = pop();
            if (step == S_ADD) {
                give((long) a + b);
            } else if (step == S_SUBTRACT) {
                give((long) a - b);
            } else if (step == S_TIMES) {
                give((long) a * b);
            } else if (b == 0) {
                failed = true;
            } else {
                give(step == S_DIVIDE ? a / b : a % b);
            }
        }

        private void compare(int step) {
            int b = pop();
            int a = pop();
            push(holds(step, a, b) ? 1 : 0);
        }

        private static boolean holds(int relation, int a, int b) {
            switch (relation) {
                case S_EQUAL: return a == b;
                case S_UNEQUAL: return a != b;
                case S_LESS: return a < b;
                case S_AT_MOST: return a <= b;
                case S_MORE: return a > b;
                default: return a >= b;
            }
        }

        /** Makes one number of the last ones on the stack. */
        private void gather(int step, int size) {
            int sought = step == S_COUNT ? pop() : 0;
            int from = top - size;
            if (size < 1 || from < 0) {
                failed = true;
                return;
            }
            long result = step == S_MIN || step == S_MAX ? stack[from] : 0;
            for (int i = from; i < top; i++) {
                int number = stack[i];
                switch (step) {
                    case S_MIN:
                        result = Math.min(result, number);
                        break;
                    case S_MAX:
                        result = Math.max(result, number);
                        break;
                    case S_SUM:
                        // Each addition is an operation: it FAILS though the whole be within.
                        result += number;
                        failed = failed || isBeyond(result);
                        break;
                    default:
                        result += number == sought ? 1 : 0;
                        break;
                }
            }
            top = from;
            push((int) result);
        }

        /** Makes one truth of the last numbers on the stack. */
        private void testList(Problem q, int step, int with) {
            int most = step == S_FITS ? pop() : 0;
            int size = with;
            if (step == S_FITS) {
                size = 3 * with;
            } else if (step == S_IN) {
                size = q.tables.has(with) ? q.tables.widths[with] : 0;
            }
            int from = top - size;
            if (size < 1 || from < 0) {
                failed = true;
                return;
            }
            boolean truth;
            switch (step) {
                case S_DISTINCT:
                    truth = areDistinct(from);
                    break;
                case S_ORDERED:
                    truth = areOrdered(from);
                    break;
                case S_CIRCUIT:
                    truth = areCircuit(from);
                    break;
                case S_FITS:
                    truth = doFit(from, most);
                    break;
                default:
                    truth = areRowOf(q.tables, with, from);
                    break;
            }
            top = from;
            push(truth ? 1 : 0);
        }

        private boolean areDistinct(int from) {
            for (int i = from + 1; i < top; i++) {
                for (int j = from; j < i; j++) {
                    if (stack[i] == stack[j]) {
                        return false;
                    }
                }
            }
            return true;
        }

        private boolean areOrdered(int from) {
            for (int i = from + 1; i < top; i++) {
                if (stack[i] < stack[i - 1]) {
                    return false;
                }
            }
            return true;
        }

        /** All are come to just when the way is back at 0 for the first time at its last step. */
        private boolean areCircuit(int from) {
            int size = top - from;
            int here = 0;
            for (int steps = 1; steps <= size; steps++) {
                here = stack[from + here];
                if (here < 0 || here >= size) {
                    return false;
                }
                if (here == 0) {
                    return steps == size;
                }
            }
            return false;
        }

        /** Use changes only where a task begins or is over, so those times are enough. */
        private boolean doFit(int from, int most) {
            for (int i = from; i + 2 < top; i += 3) {
                boolean takes = stack[i + 1] >= 1;
                if (takes && isOverused(from, stack[i], most)) {
                    return false;
                }
                if (takes && isOverused(from, stack[i] + stack[i + 1], most)) {
                    return false;
                }
            }
            return true;
        }

        private boolean isOverused(int from, int time, int most) {
            boolean going = false;
            long used = 0;
            for (int i = from; i + 2 < top; i += 3) {
                if (stack[i] <= time && time < stack[i] + stack[i + 1]) {
                    going = true;
                    used += stack[i + 2];
                }
            }
            return going && used > most;
        }

        private boolean areRowOf(Tables tables, int t, int from) {
            int rows = tables.has(t) ? tables.rows[t] : 0;
            for (int r = 0; r < rows; r++) {
                if (equal(tables.numbers, tables.spot(t, r, 0), from)) {
                    return true;
                }
            }
            return false;
        }

        /** Whether the last numbers on the stack stand one behind the other in others too. */
        private boolean equal(int[] others, int spot, int from) {
            if (spot < 0 || spot + top - from > others.length) {
                return false;
            }
            for (int i = from; i < top; i++) {
                if (others[spot + i - from] != stack[i]) {
                    return false;
                }
            }
            return true;
        }
    }

    /** Goes through the plans that what is pinned leaves, first ones first. */
    private static final class Walk {
        final int[] values = new int[MOST_VARIABLES];
        final int[] kept = new int[MOST_VARIABLES];
        int index;

        void begin(Problem q) {
            index = 0;
            for (int k = 0; k < q.variables; k++) {
                values[k] = q.pinned[k] == NO_VALUE ? q.least[k] : q.pinned[k];
                index += (values[k] - q.least[k]) * q.strides[k];
            }
        }

        void advance(Problem q) {
            for (int k = q.variables - 1; k >= 0; k--) {
                if (q.pinned[k] != NO_VALUE) {
                    continue;
                }
                if (values[k] < q.greatest[k]) {
                    values[k]++;
                    index += q.strides[k];
                    return;
                }
                index -= (values[k] - q.least[k]) * q.strides[k];
                values[k] = q.least[k];
            }
        }

        void keep() {
            System.arraycopy(values, 0, kept, 0, MOST_VARIABLES);
        }

        /** In how many variables the plan here is another than the problem's. */
        int distance(Problem q) {
            int changed = 0;
            for (int k = 0; k < q.variables; k++) {
                changed += values[k] == q.chosen[k] ? 0 : 1;
            }
            return changed;
        }

        /** The variables, as bits, that have the same value here as in what was kept. */
        int sameAsKept(Problem q) {
            int bits = 0;
            for (int k = 0; k < q.variables; k++) {
                bits |= values[k] == kept[k] ? 1 << k : 0;
            }
            return bits;
        }
    }

    /** Pairs none of which is outdone by another: firsts rise, seconds fall. */
    private static final class Front {
        private int[] firsts = new int[0];
        private int[] seconds = new int[0];
        private int count;

        void clear() {
            count = 0;
        }

        int size() {
            return count;
        }

        int number(int i, int which) {
            if (i < 0 || i >= count || which < 0 || which > 1) {
                return NO_PAIR;
            }
            return which == 0 ? firsts[i] : seconds[i];
        }

        void offer(int first, int second) {
            int at = firstNotBelow(first);
            if (at > 0 && seconds[at - 1] <= second) {
                return;
            }
            if (at < count && firsts[at] == first && seconds[at] <= second) {
                return;
            }
            int end = at;
            while (end < count && seconds[end] >= second) {
                end++;
            }
            replace(at, end, first, second);
        }

        private int firstNotBelow(int first) {
            int low = 0;
            int high = count;
            for (int n = 0; n < 32 && low < high; n++) {
                int middle = (low + high) / 2;
                if (firsts[middle] < first) {
                    low = middle + 1;
                } else {
                    high = middle;
                }
            }
            return low;
        }

        /** The pair comes in place of those from at to before end. */
        private void replace(int at, int end, int first, int second) {
            if (count >= firsts.length) {
                int room = Math.max(16, Math.min(count * 2, MOST_PLANS + 1));
                firsts = Arrays.copyOf(firsts, Math.max(room, count + 1));
                seconds = Arrays.copyOf(seconds, Math.max(room, count + 1));
            }
            System.arraycopy(firsts, end, firsts, at + 1, count - end);
            System.arraycopy(seconds, end, seconds, at + 1, count - end);
            firsts[at] = first;
            seconds[at] = second;
            count += at + 1 - end;
        }
    }

    /** Finds the fewest rules of which every plan breaks one. */
    private static final class Core {
        // The bits of a word for sets without rule k; rules from 5 on choose the word.
        private static final int[] WITHOUT = {
            0x55555555, 0x33333333, 0x0F0F0F0F, 0x00FF00FF, 0x0000FFFF
        };
        // Bit s of these tells that some plan breaks no other rules than those of s.
        private int[] words = new int[0];
        private int used;

        /** Begins with no plans; what they break will lie within these rules. */
        void begin(int rulesOn) {
            if (words.length == 0) {
                words = new int[1 << (MOST_ITEMS - 5)];
            }
            used = Math.max(0, Math.min((rulesOn >> 5) + 1, words.length));
            Arrays.fill(words, 0, used, 0);
        }

        void addBroken(int set) {
            int word = set >> 5;
            if (word >= 0 && word < used) {
                words[word] |= 1 << (set & 31);
            }
        }

        private boolean breaksNoOther(int set) {
            int word = set >> 5;
            return word >= 0 && word < used && (words[word] >> (set & 31) & 1) != 0;
        }

        int smallest(int rulesOn) {
            spread();
            int found = rulesOn;
            for (int set = 0; set < rulesOn; set++) {
                if ((set & ~rulesOn) == 0 && !breaksNoOther(rulesOn & ~set) && isAhead(set, found)) {
                    found = set;
                }
            }
            return found;
        }

        /** What breaks no other rules than those of a set does so of each larger set too. */
        private void spread() {
            for (int k = 0; k < WITHOUT.length; k++) {
                for (int w = 0; w < used; w++) {
                    words[w] |= (words[w] & WITHOUT[k]) << (1 << k);
                }
            }
            for (int bit = 1; bit < used; bit <<= 1) {
                for (int w = bit; w < used; w++) {
                    words[w] |= (w & bit) != 0 ? words[w ^ bit] : 0;
                }
            }
        }

        private static boolean isAhead(int a, int b) {
            int fewer = Integer.bitCount(b) - Integer.bitCount(a);
            int differing = a ^ b;
            return fewer > 0 || fewer == 0 && (a & differing & -differing) != 0;
        }
    }

    /** Answers the questions about one plan of a problem and about all of them. */
    private static final class Search {
        final Front front = new Front();
        final int[] judgement = new int[LEVELS + 2];
        boolean judged;
        private final Machine machine = new Machine();
        private final Walk walk = new Walk();
        private final Core core = new Core();

        /** Judges the plan that the problem holds. */
        int weighChosen(Problem q) {
            machine.weigh(q, q.chosen);
            judged = true;
            System.arraycopy(machine.levels, 0, judgement, 0, LEVELS);
            if (machine.failedAt >= 0) {
                judgement[LEVELS] = machine.failedAt;
                judgement[LEVELS + 1] = 0;
                return 2;
            }
            int broken = machine.untrue & q.rules.rulesOn();
            judgement[LEVELS] = broken == 0 ? NO : Integer.bitCount((broken & -broken) - 1);
            judgement[LEVELS + 1] = Integer.bitCount(broken);
            return broken == 0 ? 1 : 0;
        }

        /** Begins at the first plan: how many there are to go through. */
        private int begin(Problem q) {
            q.ledger.open(q.space);
            walk.begin(q);
            return Math.min(q.plansLeft(), MOST_PLANS);
        }

        private int ledgerSpot() {
            return walk.index * LEDGER_STEP;
        }

        /** What the ledger says of the plan here, which is weighed when it says nothing yet. */
        private int stateHere(Problem q) {
            int at = ledgerSpot();
            if (!q.ledger.covers(at)) {
                return FAILED;
            }
            if (q.ledger.rows[at] == 0) {
                machine.weigh(q, walk.values);
                int state = machine.failedAt >= 0 ? KNOWN | FAILED : KNOWN | machine.untrue;
                q.ledger.note(at, state, machine.levels);
            }
            return q.ledger.rows[at];
        }

        private static boolean allows(Problem q, int state) {
            return (state & (FAILED | q.rules.rulesOn())) == 0;
        }

        /** Below 0 when the plan at ledger spot a has the better score, 0 when it is the same. */
        private static int compareScores(Ledger ledger, int a, int b) {
            if (!ledger.covers(a) || !ledger.covers(b)) {
                return 0;
            }
            for (int level = 1; level <= LEVELS; level++) {
                int order = Integer.compare(ledger.rows[a + level], ledger.rows[b + level]);
                if (order != 0) {
                    return order;
                }
            }
            return 0;
        }

        int countAllowed(Problem q) {
            int count = 0;
            int left = begin(q);
            for (int n = 0; n < left; n++) {
                count += allows(q, stateHere(q)) ? 1 : 0;
                walk.advance(q);
            }
            return count;
        }

        int countFailing(Problem q) {
            int count = 0;
            int left = begin(q);
            for (int n = 0; n < left; n++) {
                count += (stateHere(q) & FAILED) != 0 ? 1 : 0;
                walk.advance(q);
            }
            return count;
        }

        int countHaving(Problem q, int k, int v) {
            int count = 0;
            int left = begin(q);
            for (int n = 0; n < left; n++) {
                count += walk.values[k] == v && allows(q, stateHere(q)) ? 1 : 0;
                walk.advance(q);
            }
            return count;
        }

        int chooseBest(Problem q) {
            int count = 0;
            int bestSpot = 0;
            int left = begin(q);
            for (int n = 0; n < left; n++) {
                if (allows(q, stateHere(q))) {
                    int order = count == 0 ? -1 : compareScores(q.ledger, ledgerSpot(), bestSpot);
                    if (order < 0) {
                        bestSpot = ledgerSpot();
                        walk.keep();
                        count = 0;
                    }
                    count += order <= 0 ? 1 : 0;
                }
                walk.advance(q);
            }
            if (count > 0) {
                chooseKept(q);
                weighChosen(q);
            }
            return count;
        }

        private void chooseKept(Problem q) {
            System.arraycopy(walk.kept, 0, q.chosen, 0, MOST_VARIABLES);
        }

        int chooseNearest(Problem q) {
            int fewest = MOST_VARIABLES + 1;
            int bestSpot = 0;
            int left = begin(q);
            for (int n = 0; n < left; n++) {
                if (allows(q, stateHere(q))) {
                    int changed = walk.distance(q);
                    boolean nearer = changed < fewest || changed == fewest
                        && compareScores(q.ledger, ledgerSpot(), bestSpot) < 0;
                    if (nearer) {
                        fewest = changed;
                        bestSpot = ledgerSpot();
                        walk.keep();
                    }
                }
                walk.advance(q);
            }
            if (fewest > MOST_VARIABLES) {
                return NO;
            }
            chooseKept(q);
            return fewest;
        }

        int findSettled(Problem q) {
            boolean any = false;
            int bits = 0;
            int left = begin(q);
            for (int n = 0; n < left; n++) {
                if (allows(q, stateHere(q))) {
                    if (!any) {
                        walk.keep();
                        bits = (1 << q.variables) - 1;
                        any = true;
                    }
                    bits &= walk.sameAsKept(q);
                }
                walk.advance(q);
            }
            return bits;
        }

        int findFront(Problem q, int a, int b) {
            front.clear();
            int left = begin(q);
            for (int n = 0; n < left; n++) {
                int at = ledgerSpot();
                if (allows(q, stateHere(q)) && q.ledger.covers(at)) {
                    front.offer(q.ledger.rows[at + 1 + a], q.ledger.rows[at + 1 + b]);
                }
                walk.advance(q);
            }
            return front.size();
        }

        int findCore(Problem q) {
            int rulesOn = q.rules.rulesOn();
            boolean any = false;
            core.begin(rulesOn);
            int left = begin(q);
            for (int n = 0; n < left; n++) {
                int state = stateHere(q);
                if ((state & FAILED) == 0) {
                    if ((state & rulesOn) == 0) {
                        return 0;
                    }
                    core.addBroken(state & rulesOn);
                    any = true;
                }
                walk.advance(q);
            }
            return any ? core.smallest(rulesOn) : 0;
        }
    }
}
