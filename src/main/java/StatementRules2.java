/** Statements of Java as texts: read, judged and run, as ../shared/DOC.md tells. */
public final class StatementRules2 {
    public static final int BAD = -1, FULL = -2, NO = -3;

    private static final int TAPE = 900;
    private static final int KINDS = 12;
    private static final int RESOURCES = 8;
    private static final int MOST_OPEN_SIGNS = 20;
    private static final int MOST_STEPS = 1000;
    private static final int MOST_ROWS = 200;
    private static final int MOST_SUPPRESSED = 8;

    // Far above what 900 bytes and 1000 STEPS can ask for.
    private static final int TURNS = 10000;
    private static final int TICKS = 4000000;

    // TOKENS: a sign of one byte is its own type.
    private static final int END = 0, NUMBER = 1, NAME = 2, MONITOR = 3, RESOURCE = 4, KIND = 5, NONE = 6;
    private static final int AT_MOST = 128, AT_LEAST = 129, SAME = 130, OTHER = 131, BOTH = 132, EITHER = 133,
        ARROW = 134, PLUS_PLUS = 135;
    private static final String WORDS = "int var log if else while do for break continue return throw lock try with catch finally assert switch case default yield true false null";
    private static final int WORD_COUNT = 25;
    private static final int INT = 200, VAR = 201, LOG = 202, IF = 203, ELSE = 204, WHILE = 205, DO = 206, FOR = 207,
        BREAK = 208, CONTINUE = 209, RETURN = 210, THROW = 211, LOCK = 212, TRY = 213, WITH = 214, CATCH = 215,
        FINALLY = 216, ASSERT = 217, SWITCH = 218, CASE = 219, DEFAULT = 220, YIELD = 221, TRUE = 222, FALSE = 223,
        NULL = 224;

    // What may be open besides IF, ELSE, WHILE, DO, FOR, SWITCH, LOCK, TRY, CATCH, FINALLY.
    private static final int ROOT = 300, BLOCK = 301, ARM = 302, LABEL = 303, ROW = 304, GUARDED = 305;

    // Instructions on values, below DO_GOTO; on the way to go, below DO_END; then those with an effect.
    private static final int DO_PUSH = 0, DO_LOAD = 1, DO_STORE = 2, DO_INCREASE = 3, DO_NEGATE = 4, DO_NOT = 5,
        DO_POP = 6, DO_ADD = 7, DO_SUBTRACT = 8, DO_MULTIPLY = 9, DO_DIVIDE = 10, DO_REMAINDER = 11, DO_LESS = 12,
        DO_AT_MOST = 13, DO_MORE = 14, DO_AT_LEAST = 15, DO_SAME = 16, DO_OTHER = 17;
    private static final int DO_GOTO = 30, DO_IF_NOT = 31, DO_KEEP_FALSE = 32, DO_KEEP_TRUE = 33, DO_CASE = 34,
        DO_IF_CALM = 35, DO_ROW = 36, DO_HAS = 37, DO_TAKE = 38;
    private static final int DO_END = 50, DO_STEP = 51, DO_LOG = 52, DO_LOCK = 53, DO_ENTER = 54, DO_OPEN = 55,
        DO_MATCH = 56, DO_CAUGHT = 57, DO_UNCAUGHT = 58, DO_RESUME = 59, DO_LEAVE = 60, DO_YIELD = 61,
        DO_RETURN = 62, DO_THROW = 63, DO_RETHROW = 64;

    // How an argument holds two numbers: the second one is below these.
    private static final int DEPTHS = 32, KIND_ROOM = 16;

    // Outcomes of a run.
    private static final int GOING = -1, ENDED = 0, RETURNED = 1, THREW = 2, SPENT = 3;

    // Ways that a run goes: on, or out of frames.
    private static final int ON = 0, LEAVING = 1, YIELDING = 2, RETURNING = 3, THROWING = 4;

    // Phases of a frame.
    private static final int LOCKED = 0, IN_BODY = 1, IN_CATCHES = 2, IN_FINALLY = 3;

    // Sorts of THE TRACE.
    private static final int LOGGED = 0, OPENED = 1, CLOSED = 2, TAKEN = 3, LET_GO = 4;

    private final int[] tape = new int[TAPE];
    private final Told told = new Told();
    private final Code code = new Code();
    private final Statements reader = new Statements(new Tokens(tape), code, told);
    private final Machine machine = new Machine(told, code);
    private int length;
    private int latestFault;
    private boolean hasProgram;
    private boolean hasRun;

    public StatementRules2() {
    }

    public int feed(int a, int b, int c, int d, int e) {
        if (length + 20 > TAPE) {
            return FULL;
        }
        addBytes(a);
        addBytes(b);
        addBytes(c);
        addBytes(d);
        addBytes(e);
        return length;
    }

    private void addBytes(int number) {
        for (int shift = 24; shift >= 0; shift -= 8) {
            put(tape, length, number >>> shift & 255);
            length++;
        }
    }

    public int cut(int n) {
        if (n < 0 || n > length) {
            return BAD;
        }
        int gone = length - n;
        length = n;
        return gone;
    }

    public int kind(int above) {
        if (!told.isKind(above)) {
            return BAD;
        }
        return told.isFull() ? FULL : told.addKind(above);
    }

    public int resource(int r, int isNull, int opening, int closing) {
        if (r < 0 || r >= RESOURCES || isNull < 0 || isNull > 1) {
            return BAD;
        }
        if (!isKindOrNothing(opening) || !isKindOrNothing(closing)) {
            return BAD;
        }
        told.tellResource(r, isNull, opening, closing);
        return 1;
    }

    private boolean isKindOrNothing(int number) {
        return number == -1 || told.isKind(number);
    }

    public int asserts(boolean on) {
        int before = told.assertsOn ? 1 : 0;
        told.assertsOn = on;
        return before;
    }

    public int read() {
        int bytes = length;
        length = 0;
        hasRun = false;
        latestFault = reader.translate(bytes);
        hasProgram = latestFault == 0;
        return hasProgram ? code.statements : -10 - reader.faultPlace;
    }

    public int fault() {
        return latestFault;
    }

    public int program(int what) {
        if (what < 0 || what > 3) {
            return BAD;
        }
        if (!hasProgram) {
            return NO;
        }
        switch (what) {
            case 0:
                return code.statements;
            case 1:
                return code.endReached ? 1 : 0;
            case 2:
                return code.toldNames;
            default:
                return code.jumps;
        }
    }

    public int run(int a, int b) {
        if (!hasProgram) {
            return NO;
        }
        hasRun = true;
        return machine.perform(a, b);
    }

    public int ran(int what) {
        if (what < 0 || what > 6) {
            return BAD;
        }
        return hasRun ? machine.answer(what) : NO;
    }

    public int trace(int i, int what) {
        if (!hasRun || i < 0 || i >= machine.rowCount || what < 0 || what > 1) {
            return BAD;
        }
        return at(machine.rows, 2 * i + what);
    }

    public int suppressed(int i, int what) {
        Thrown last = hasRun ? machine.lastThrown() : null;
        if (last == null || i < 0 || i >= last.count || what < 0 || what > 1) {
            return BAD;
        }
        return at(what == 0 ? last.kinds : last.numbers, i);
    }

    public int under(int a, int b) {
        if (!told.isKind(a) || !told.isKind(b)) {
            return BAD;
        }
        return told.isUnder(a, b) ? 1 : 0;
    }

    public int rounds(int n, int size) throws ArithmeticException {
        if (n < 0 || size < 0) {
            return BAD;
        }
        if (size == 0) {
            throw new ArithmeticException();
        }
        return n / size + (n % size == 0 ? 0 : 1);
    }

    private static int at(int[] row, int i) {
        return i >= 0 && i < row.length ? row[i] : 0;
    }

    private static void put(int[] row, int i, int value) {
        if (i >= 0 && i < row.length) {
            row[i] = value;
        }
    }

    /** What is told from outside: KINDS, RESOURCES, and whether assert is on. */
    private static final class Told {
        private final int[] above = new int[KINDS];
        private final int[] isNull = new int[RESOURCES];
        private final int[] opening = new int[RESOURCES];
        private final int[] closing = new int[RESOURCES];
        private int kindCount = 4;
        private boolean assertsOn;

        Told() {
            above[0] = -1;
            for (int r = 0; r < RESOURCES; r++) {
                opening[r] = -1;
                closing[r] = -1;
            }
        }

        boolean isKind(int number) {
            return number >= 0 && number < kindCount;
        }

        boolean isFull() {
            return kindCount >= KINDS;
        }

        int addKind(int next) {
            put(above, kindCount, next);
            kindCount++;
            return kindCount - 1;
        }

        boolean isUnder(int lower, int upper) {
            int reached = lower;
            for (int i = 0; i < KINDS && reached >= 0; i++) {
                if (reached == upper) {
                    return true;
                }
                reached = at(above, reached);
            }
            return false;
        }

        void tellResource(int r, int none, int first, int last) {
            put(isNull, r, none);
            put(opening, r, first);
            put(closing, r, last);
        }
    }

    /** The token that the reader stands at. */
    private static final class Tokens {
        private final int[] tape;
        private final long[] words = new long[WORD_COUNT];
        private int length;
        private int next;
        private int type;
        private int place;
        private int value;
        private long name;

        Tokens(int[] tape) {
            this.tape = tape;
            int word = 0;
            for (int i = 0; i < WORDS.length(); i++) {
                if (WORDS.charAt(i) == ' ') {
                    word++;
                } else if (word < WORD_COUNT) {
                    words[word] = words[word] << 8 | WORDS.charAt(i);
                }
            }
        }

        void start(int bytes) {
            length = bytes;
            next = 0;
            advance();
        }

        void stop() {
            next = length;
            type = END;
        }

        void advance() {
            for (int i = 0; i < TAPE && (byteAt(next) == ' ' || byteAt(next) == '\n'); i++) {
                next++;
            }
            place = next;
            if (next >= length) {
                type = END;
            } else if (isDigit(byteAt(next))) {
                takeNumber();
            } else if (isLetter(byteAt(next))) {
                takeRow();
            } else {
                takeSign();
            }
        }

        private int byteAt(int i) {
            return i >= 0 && i < length && i < tape.length ? tape[i] : -1;
        }

        private static boolean isDigit(int c) {
            return c >= '0' && c <= '9';
        }

        private static boolean isLetter(int c) {
            return c >= 'a' && c <= 'z';
        }

        private void takeNumber() {
            value = 0;
            for (int i = 0; i < TAPE && isDigit(byteAt(next)); i++) {
                value = value * 10 + byteAt(next) - '0';
                next++;
            }
            type = next - place > 9 ? NONE : NUMBER;
        }

        private void takeRow() {
            name = 0;
            for (int i = 0; i < TAPE && (isDigit(byteAt(next)) || isLetter(byteAt(next))); i++) {
                name = name << 8 | byteAt(next);
                next++;
            }
            type = next - place > 8 ? NONE : rowType(next - place);
        }

        private int rowType(int size) {
            for (int i = 0; i < WORD_COUNT; i++) {
                if (words[i] == name) {
                    return INT + i;
                }
            }
            long last = (name & 255) - '0';
            boolean isOne = size == 2 && last >= 0 && last <= 9;
            boolean isTwo = size == 3 && last >= 0 && last <= 9 && (name >> 8 & 255) == '1';
            if (!isOne && !isTwo) {
                return NAME;
            }
            long first = isOne ? name >> 8 : name >> 16;
            value = (int) last + (isOne ? 0 : 10);
            if (first == 'e') {
                return value < KINDS ? KIND : NAME;
            }
            if (value >= 8) {
                return NAME;
            }
            return first == 'm' ? MONITOR : first == 'r' ? RESOURCE : NAME;
        }

        private void takeSign() {
            int first = byteAt(next);
            type = longSign(first, byteAt(next + 1));
            if (type != NONE) {
                next += 2;
                return;
            }
            next++;
            if (isSign(first)) {
                type = first;
            }
        }

        private static int longSign(int first, int second) {
            if (second == '=') {
                return first == '<' ? AT_MOST : first == '>' ? AT_LEAST : first == '=' ? SAME
                    : first == '!' ? OTHER : NONE;
            }
            if (first == '-' && second == '>') {
                return ARROW;
            }
            if (first != second) {
                return NONE;
            }
            return first == '&' ? BOTH : first == '|' ? EITHER : first == '+' ? PLUS_PLUS : NONE;
        }

        private static boolean isSign(int c) {
            switch (c) {
                case '{': case '}': case '(': case ')': case '[': case ']': case ';': case ':': case ',':
                case '=': case '+': case '-': case '*': case '/': case '%': case '<': case '>': case '!': case '|':
                    return true;
                default:
                    return false;
            }
        }
    }

    /** The program: instructions, and what was counted while it was read. */
    private static final class Code {
        private final int[] ops = new int[1200];
        private final int[] arguments = new int[1200];
        private final int[] targets = new int[1024];
        private final int[] caseValues = new int[320];
        private final int[] caseTargets = new int[320];
        private int size;
        private int targetCount;
        private int caseCount;
        private int cellCount;
        private int statements;
        private int toldNames;
        private int jumps;
        private boolean endReached;

        void clear() {
            size = 0;
            targetCount = 0;
            caseCount = 0;
            cellCount = 0;
            statements = 0;
            toldNames = 0;
            jumps = 0;
            endReached = false;
        }

        void add(int op, int argument) {
            put(ops, size, op);
            put(arguments, size, argument);
            size++;
        }

        int newTarget() {
            put(targets, targetCount, -1);
            targetCount++;
            return targetCount - 1;
        }

        void aim(int target) {
            put(targets, target, size);
        }

        int newCells(int count) {
            cellCount += count;
            return cellCount - count;
        }

        boolean hasCase(int first, int value) {
            for (int i = first; i < caseCount; i++) {
                if (at(caseValues, i) == value) {
                    return true;
                }
            }
            return false;
        }

        void addCase(int value, int target) {
            put(caseValues, caseCount, value);
            put(caseTargets, caseCount, target);
            caseCount++;
        }

        /** The cases from first on, which are forgotten then; the value that was asked is gone behind them. */
        void addCases(int first, int otherwise) {
            for (int i = first; i < caseCount; i++) {
                add(DO_PUSH, at(caseValues, i));
                add(DO_CASE, at(caseTargets, i));
            }
            caseCount = first;
            add(DO_POP, 0);
            add(DO_GOTO, otherwise);
        }
    }

    /** The NAMES that are seen, with their cells. */
    private static final class Names {
        private final long[] names = new long[128];
        private final int[] cells = new int[128];
        private final int[] frames = new int[128];
        private int count;

        int find(long name) {
            for (int i = 0; i < count && i < names.length; i++) {
                if (names[i] == name) {
                    return i;
                }
            }
            return -1;
        }

        /** The frame is that of the try whose CATCH told the name; -1: int, var or a PARAMETER did. */
        void add(long name, int cell, int frame) {
            if (count < names.length) {
                names[count] = name;
                cells[count] = cell;
                frames[count] = frame;
                count++;
            }
        }

        int cellOf(int index) {
            return at(cells, index);
        }

        int frameOf(int index) {
            return at(frames, index);
        }

        boolean isCaught(int index) {
            return at(frames, index) >= 0;
        }
    }

    /** A statement, or a BLOCK of one, whose end has not been read. */
    private static final class Open {
        private int sort;
        private int serial;
        private int depth;
        private int namesBefore;
        private long label;
        private boolean begun;
        private boolean ends;
        private boolean never;
        private boolean whole;
        private int exit;
        private int next;
        private int other;
        private int caught;
        private int firstCase;
        private int firstJump;
        private int finallyJump;
        private int outerArm;

        boolean isLoop() {
            return sort == WHILE || sort == DO || sort == FOR || sort == ROW;
        }

        boolean hasOneBody() {
            return isLoop() || sort == LABEL || sort == IF || sort == ELSE;
        }
    }

    /** All that is open, the innermost one last, and the jumps to it. */
    private static final class Opens {
        private final Open[] rows = new Open[400];
        private final int[] jumps = new int[160];
        private int count;
        private int serials;
        private int jumpCount;
        private int arm;

        void clear() {
            count = 0;
            serials = 0;
            jumpCount = 0;
            arm = -1;
        }

        Open push(int sort, int depth, int namesBefore) {
            int index = Math.min(count, rows.length - 1);
            Open made = rows[index];
            if (made == null) {
                made = new Open();
                rows[index] = made;
            }
            count = index + 1;
            serials++;
            made.sort = sort;
            made.serial = serials;
            made.depth = depth;
            made.namesBefore = namesBefore;
            made.label = 0;
            made.begun = false;
            made.ends = false;
            made.never = false;
            made.whole = false;
            made.exit = -1;
            made.next = -1;
            made.other = -1;
            made.caught = 0;
            made.firstJump = jumpCount;
            return made;
        }

        void pop() {
            count = Math.max(0, count - 1);
        }

        Open row(int index) {
            return index >= 0 && index < count && index < rows.length ? rows[index] : null;
        }

        /** The nearest one that a break, or only a continue, goes to; -1: none is seen. */
        int nearest(boolean loopsOnly) {
            for (int i = count - 1; i > arm; i--) {
                Open here = row(i);
                if (here != null && (here.isLoop() || !loopsOnly && here.sort == SWITCH)) {
                    return i;
                }
            }
            return -1;
        }

        int labelled(long label) {
            for (int i = count - 1; i > arm; i--) {
                Open here = row(i);
                if (here != null && here.sort == LABEL && here.label == label) {
                    return i;
                }
            }
            return -1;
        }

        /** The loop that the LABEL stands at, perhaps behind other ones; -1: none. */
        int loopBehind(int labelIndex) {
            for (int i = labelIndex + 1; i < count; i++) {
                Open here = row(i);
                if (here == null || here.sort != LABEL) {
                    return here != null && here.isLoop() ? i : -1;
                }
            }
            return -1;
        }

        void addJump(Open target, boolean again) {
            put(jumps, jumpCount, jumpTo(target, again));
            jumpCount++;
        }

        boolean isGoneTo(Open target, boolean again) {
            for (int i = target.firstJump; i < jumpCount; i++) {
                if (at(jumps, i) == jumpTo(target, again)) {
                    return true;
                }
            }
            return false;
        }

        private static int jumpTo(Open target, boolean again) {
            return 2 * target.serial + (again ? 1 : 0);
        }

        /** Jumps out of a try whose finally cannot END do not arrive. */
        void loseJumps(int from, int to) {
            for (int i = from; i < to; i++) {
                put(jumps, i, 0);
            }
        }
    }

    /** Reads EXPR and COND. Each level of recursion has a sign open, and those are limited. */
    private abstract static class Formulas {
        final Tokens tokens;
        final Code code;
        final Told told;
        final Names names = new Names();
        int faultNumber;
        int faultPlace;
        int openSigns;

        Formulas(Tokens tokens, Code code, Told told) {
            this.tokens = tokens;
            this.code = code;
            this.told = told;
        }

        abstract void armBlock(int exit);

        /** The first fault stays; behind it the reader stands at the end, so that nothing more is read. */
        final void fail(int number, int place) {
            if (faultNumber == 0) {
                faultNumber = number;
                faultPlace = place;
                tokens.stop();
            }
        }

        final void misplaced() {
            fail(found(NONE) ? 1 : 2, tokens.place);
        }

        final boolean found(int type) {
            return tokens.type == type;
        }

        final boolean skip(int type) {
            boolean here = found(type);
            if (here) {
                tokens.advance();
            }
            return here;
        }

        final void expect(int type) {
            if (found(type)) {
                tokens.advance();
            } else {
                misplaced();
            }
        }

        final void open(int sign) {
            if (!found(sign)) {
                misplaced();
            } else if (openSigns >= MOST_OPEN_SIGNS) {
                fail(6, tokens.place);
            } else {
                openSigns++;
                tokens.advance();
            }
        }

        final void close(int sign) {
            if (found(sign)) {
                tokens.advance();
            } else {
                misplaced();
            }
            openSigns--;
        }

        final void expression() {
            product();
            for (int i = 0; i < TAPE && (found('+') || found('-')); i++) {
                int op = found('+') ? DO_ADD : DO_SUBTRACT;
                tokens.advance();
                product();
                code.add(op, 0);
            }
        }

        private void product() {
            factor();
            for (int i = 0; i < TAPE && (found('*') || found('/') || found('%')); i++) {
                int op = found('*') ? DO_MULTIPLY : found('/') ? DO_DIVIDE : DO_REMAINDER;
                tokens.advance();
                factor();
                code.add(op, 0);
            }
        }

        private void factor() {
            switch (tokens.type) {
                case NUMBER:
                    code.add(DO_PUSH, tokens.value);
                    tokens.advance();
                    break;
                case NAME:
                    loadName();
                    break;
                case '-':
                    negated();
                    break;
                case '(':
                    open('(');
                    expression();
                    close(')');
                    break;
                case SWITCH:
                    choice();
                    break;
                default:
                    misplaced();
            }
        }

        private void loadName() {
            int index = names.find(tokens.name);
            if (index < 0) {
                fail(3, tokens.place);
                return;
            }
            code.add(DO_LOAD, names.cellOf(index));
            tokens.advance();
        }

        private void negated() {
            open('-');
            if (faultNumber == 0) {
                factor();
            }
            openSigns--;
            code.add(DO_NEGATE, 0);
        }

        private void choice() {
            tokens.advance();
            open('(');
            expression();
            close(')');
            open('{');
            int dispatch = code.newTarget();
            int exit = code.newTarget();
            int first = code.caseCount;
            int otherwise = -1;
            code.add(DO_GOTO, dispatch);
            for (int i = 0; i < TAPE && (found(CASE) || found(DEFAULT)); i++) {
                otherwise = arm(first, otherwise, exit);
            }
            if (otherwise < 0) {
                misplaced();
            }
            close('}');
            code.aim(dispatch);
            code.addCases(first, otherwise);
            code.aim(exit);
        }

        /** Answers the target of default, if it is known by now; else -1. */
        private int arm(int first, int defaultBefore, int exit) {
            int body = code.newTarget();
            int otherwise = defaultBefore;
            if (found(DEFAULT)) {
                if (otherwise >= 0) {
                    fail(4, tokens.place);
                }
                otherwise = body;
                tokens.advance();
            } else {
                tokens.advance();
                caseNumber(first, body);
                for (int i = 0; i < TAPE && skip(','); i++) {
                    caseNumber(first, body);
                }
            }
            expect(ARROW);
            code.aim(body);
            if (found('{')) {
                armBlock(exit);
            } else {
                expression();
                expect(';');
                code.add(DO_GOTO, exit);
            }
            return otherwise;
        }

        final void caseNumber(int first, int target) {
            boolean below = skip('-');
            if (!found(NUMBER)) {
                misplaced();
                return;
            }
            int value = below ? -tokens.value : tokens.value;
            if (code.hasCase(first, value)) {
                fail(4, tokens.place);
                return;
            }
            code.addCase(value, target);
            tokens.advance();
        }

        /** Answers whether it is NEVER false. */
        final boolean condition() {
            boolean never = conjunction();
            if (!found(EITHER)) {
                return never;
            }
            int end = code.newTarget();
            for (int i = 0; i < TAPE && skip(EITHER); i++) {
                code.add(DO_KEEP_TRUE, end);
                conjunction();
            }
            code.aim(end);
            return false;
        }

        private boolean conjunction() {
            boolean never = one();
            if (!found(BOTH)) {
                return never;
            }
            int end = code.newTarget();
            for (int i = 0; i < TAPE && skip(BOTH); i++) {
                code.add(DO_KEEP_FALSE, end);
                one();
            }
            code.aim(end);
            return false;
        }

        private boolean one() {
            switch (tokens.type) {
                case '!':
                    open('!');
                    if (faultNumber == 0) {
                        one();
                    }
                    openSigns--;
                    code.add(DO_NOT, 0);
                    return false;
                case TRUE:
                    code.add(DO_PUSH, 1);
                    tokens.advance();
                    return true;
                case FALSE:
                    code.add(DO_PUSH, 0);
                    tokens.advance();
                    return false;
                case '[':
                    open('[');
                    condition();
                    close(']');
                    return false;
                default:
                    comparison();
                    return false;
            }
        }

        private void comparison() {
            expression();
            int op = comparing(tokens.type);
            if (op < 0) {
                misplaced();
                return;
            }
            tokens.advance();
            expression();
            code.add(op, 0);
        }

        private static int comparing(int type) {
            switch (type) {
                case '<':
                    return DO_LESS;
                case AT_MOST:
                    return DO_AT_MOST;
                case '>':
                    return DO_MORE;
                case AT_LEAST:
                    return DO_AT_LEAST;
                case SAME:
                    return DO_SAME;
                case OTHER:
                    return DO_OTHER;
                default:
                    return -1;
            }
        }
    }

    /**
     * Reads S. What stands in an S is no recursion, as LABELS, ifs and loops may stand one in the other some 300
     * times: each is an Open, and a turn begins the next S of the innermost one, or ends it.
     */
    private static final class Statements extends Formulas {
        private final Opens opens = new Opens();
        private boolean alive;
        private int unreached;
        private int depth;

        Statements(Tokens tokens, Code code, Told told) {
            super(tokens, code, told);
        }

        /** Answers the FAULT; 0: none. */
        int translate(int bytes) {
            code.clear();
            names.count = 0;
            names.add('a', code.newCells(1), -1);
            names.add('b', code.newCells(1), -1);
            opens.clear();
            faultNumber = 0;
            faultPlace = 0;
            openSigns = 0;
            alive = true;
            unreached = -1;
            depth = 0;
            tokens.start(bytes);
            opens.push(ROOT, 0, names.count);
            turns(0);
            if (unreached >= 0) {
                fail(7, unreached);
            }
            return faultNumber;
        }

        /** Until no more than so many are open. */
        private void turns(int floor) {
            for (int turn = 0; turn < TURNS && faultNumber == 0 && opens.count > floor; turn++) {
                Open top = opens.row(opens.count - 1);
                if (top == null) {
                    return;
                }
                if (top.hasOneBody()) {
                    bodyTurn(top);
                } else if (top.sort == GUARDED && found(CATCH)) {
                    beginCatch(top);
                } else if (top.sort == GUARDED) {
                    beginFinally(top);
                } else if (found('}') || found(END)) {
                    endList(top);
                } else if (top.sort == SWITCH) {
                    groupTurn(top);
                } else {
                    statement(false);
                }
            }
        }

        private void bodyTurn(Open top) {
            if (top.begun) {
                endBody(top);
            } else {
                top.begun = true;
                statement(true);
            }
        }

        private void groupTurn(Open top) {
            if (found(CASE) || found(DEFAULT)) {
                int target = code.newTarget();
                boolean isCase = found(CASE);
                if (!isCase && top.other >= 0) {
                    fail(4, tokens.place);
                }
                tokens.advance();
                if (isCase) {
                    caseNumber(top.firstCase, target);
                } else {
                    top.other = target;
                }
                expect(':');
                code.aim(target);
                top.begun = true;
                alive = true;
            } else if (top.begun) {
                statement(false);
            } else {
                misplaced();
            }
        }

        private void statement(boolean isBody) {
            if (!alive) {
                notReached(tokens.place);
            }
            alive = true;
            code.statements++;
            if (found(NAME)) {
                named();
            } else if (found('{')) {
                open('{');
                opens.push(BLOCK, depth, names.count);
            } else if (isBody && (found(INT) || found(VAR))) {
                misplaced();
            } else {
                code.add(DO_STEP, 0);
                plain();
            }
        }

        private void notReached(int place) {
            if (unreached < 0) {
                unreached = place;
            }
        }

        private void named() {
            long name = tokens.name;
            int place = tokens.place;
            tokens.advance();
            if (!found(':')) {
                code.add(DO_STEP, 0);
                change(name, place, true);
                expect(';');
                return;
            }
            if (opens.labelled(name) >= 0) {
                fail(4, place);
            }
            tokens.advance();
            Open label = opens.push(LABEL, depth, names.count);
            label.label = name;
            label.exit = code.newTarget();
        }

        /** NAME = EXPR or NAME ++, behind the NAME. */
        private void change(long name, int place, boolean mayIncrease) {
            int index = names.find(name);
            boolean gets = found('=') || mayIncrease && found(PLUS_PLUS);
            if (index < 0 || gets && names.isCaught(index)) {
                fail(3, place);
            } else if (!gets) {
                misplaced();
            } else if (skip(PLUS_PLUS)) {
                code.add(DO_INCREASE, names.cellOf(index));
            } else {
                tokens.advance();
                expression();
                code.add(DO_STORE, names.cellOf(index));
            }
        }

        private void plain() {
            switch (tokens.type) {
                case ';':
                    tokens.advance();
                    break;
                case INT: case VAR:
                    tokens.advance();
                    define(newName());
                    expect(';');
                    break;
                case LOG:
                    tokens.advance();
                    expression();
                    code.add(DO_LOG, 0);
                    expect(';');
                    break;
                case BREAK: case CONTINUE:
                    jump();
                    break;
                case RETURN:
                    giveBack();
                    break;
                case YIELD:
                    yieldValue();
                    break;
                case THROW:
                    throwOne();
                    break;
                case ASSERT:
                    claim();
                    break;
                default:
                    compound();
            }
        }

        private void compound() {
            switch (tokens.type) {
                case IF:
                    beginIf();
                    break;
                case WHILE:
                    beginWhile();
                    break;
                case DO:
                    beginDo();
                    break;
                case FOR:
                    beginFor();
                    break;
                case LOCK:
                    beginLock();
                    break;
                case SWITCH:
                    beginSwitch();
                    break;
                case TRY:
                    beginTry();
                    break;
                default:
                    misplaced();
            }
        }

        /** A NAME that is not seen yet; it is not seen by this. */
        private long newName() {
            long name = tokens.name;
            if (!found(NAME)) {
                misplaced();
            } else if (names.find(name) >= 0) {
                fail(4, tokens.place);
            } else {
                tokens.advance();
            }
            return name;
        }

        private void define(long name) {
            expect('=');
            expression();
            code.add(DO_STORE, tell(name));
        }

        private int tell(long name) {
            int cell = code.newCells(1);
            names.add(name, cell, -1);
            code.toldNames++;
            return cell;
        }

        private void jump() {
            boolean again = found(CONTINUE);
            int place = tokens.place;
            int index;
            code.jumps++;
            tokens.advance();
            if (found(NAME)) {
                index = labelTarget(again);
            } else {
                index = opens.nearest(again);
                if (index < 0) {
                    fail(5, place);
                }
            }
            expect(';');
            Open target = opens.row(index);
            if (target != null) {
                opens.addJump(target, again);
                leave(again ? target.next : target.exit, target.depth);
            }
            alive = false;
        }

        private int labelTarget(boolean again) {
            int index = opens.labelled(tokens.name);
            if (index < 0) {
                fail(3, tokens.place);
            } else if (again) {
                index = opens.loopBehind(index);
                if (index < 0) {
                    fail(5, tokens.place);
                }
            }
            tokens.advance();
            return index;
        }

        private void leave(int target, int goal) {
            if (goal == depth) {
                code.add(DO_GOTO, target);
            } else {
                code.add(DO_LEAVE, target * DEPTHS + goal);
            }
        }

        private void giveBack() {
            if (opens.arm >= 0) {
                fail(5, tokens.place);
            }
            tokens.advance();
            expression();
            code.add(DO_RETURN, 0);
            expect(';');
            alive = false;
        }

        private void yieldValue() {
            Open arm = opens.row(opens.arm);
            if (arm == null) {
                fail(5, tokens.place);
                return;
            }
            tokens.advance();
            expression();
            code.add(DO_YIELD, arm.exit * DEPTHS + arm.depth);
            expect(';');
            alive = false;
        }

        private void throwOne() {
            tokens.advance();
            if (found(KIND)) {
                int number = tokens.value;
                if (!told.isKind(number)) {
                    fail(3, tokens.place);
                }
                tokens.advance();
                expression();
                code.add(DO_THROW, number);
            } else if (found(NAME)) {
                int index = names.find(tokens.name);
                if (index < 0 || !names.isCaught(index)) {
                    fail(3, tokens.place);
                    return;
                }
                code.add(DO_RETHROW, names.frameOf(index));
                tokens.advance();
            } else {
                misplaced();
            }
            expect(';');
            alive = false;
        }

        private void claim() {
            int end = code.newTarget();
            tokens.advance();
            code.add(DO_IF_CALM, end);
            condition();
            code.add(DO_NOT, 0);
            code.add(DO_IF_NOT, end);
            if (skip(':')) {
                expression();
            } else {
                code.add(DO_PUSH, 0);
            }
            code.add(DO_THROW, 3);
            code.aim(end);
            expect(';');
        }

        private void beginIf() {
            int otherwise = code.newTarget();
            tokens.advance();
            conditionInside();
            code.add(DO_IF_NOT, otherwise);
            opens.push(IF, depth, names.count).next = otherwise;
        }

        private boolean conditionInside() {
            open('(');
            boolean never = condition();
            close(')');
            return never;
        }

        private void beginWhile() {
            int next = code.newTarget();
            int exit = code.newTarget();
            tokens.advance();
            code.aim(next);
            boolean never = conditionInside();
            code.add(DO_IF_NOT, exit);
            code.add(DO_STEP, 0);
            pushLoop(WHILE, next, exit).never = never;
        }

        private Open pushLoop(int sort, int next, int exit) {
            Open loop = opens.push(sort, depth, names.count);
            loop.next = next;
            loop.exit = exit;
            return loop;
        }

        private void beginDo() {
            Open loop = pushLoop(DO, code.newTarget(), code.newTarget());
            loop.other = code.newTarget();
            tokens.advance();
            code.aim(loop.other);
            code.add(DO_STEP, 0);
        }

        private void beginFor() {
            int before = names.count;
            tokens.advance();
            open('(');
            Open loop;
            if (skip(INT)) {
                long name = newName();
                if (found(':')) {
                    loop = rowHead(name);
                } else {
                    define(name);
                    loop = forHead();
                }
            } else {
                if (found(NAME)) {
                    changeHere(false);
                }
                loop = forHead();
            }
            loop.namesBefore = before;
        }

        private void changeHere(boolean mayIncrease) {
            long name = tokens.name;
            int place = tokens.place;
            tokens.advance();
            change(name, place, mayIncrease);
        }

        /** The for's head behind A. */
        private Open forHead() {
            int test = code.newTarget();
            int next = code.newTarget();
            int body = code.newTarget();
            int exit = code.newTarget();
            boolean never = true;
            expect(';');
            code.aim(test);
            if (!found(';')) {
                never = condition();
                code.add(DO_IF_NOT, exit);
            }
            code.add(DO_GOTO, body);
            expect(';');
            code.aim(next);
            if (found(NAME)) {
                changeHere(true);
            }
            close(')');
            code.add(DO_GOTO, test);
            code.aim(body);
            code.add(DO_STEP, 0);
            Open loop = pushLoop(FOR, next, exit);
            loop.never = never;
            return loop;
        }

        /** The head of a for of a row, at its colon. */
        private Open rowHead(long name) {
            int next = code.newTarget();
            int exit = code.newTarget();
            tokens.advance();
            int base = rowValues();
            close(')');
            code.aim(next);
            code.add(DO_HAS, base);
            code.add(DO_IF_NOT, exit);
            code.add(DO_STEP, 0);
            code.add(DO_TAKE, base);
            code.add(DO_STORE, tell(name));
            return pushLoop(ROW, next, exit);
        }

        /** Answers the first of the row's cells: how many were taken, how many there are, and they. */
        private int rowValues() {
            if (skip(NULL)) {
                throwNull();
                return code.newCells(2);
            }
            int count = 1;
            expression();
            for (int i = 0; i < TAPE && skip(','); i++) {
                expression();
                count++;
            }
            int base = code.newCells(2 + count);
            code.add(DO_PUSH, count);
            code.add(DO_ROW, base);
            return base;
        }

        private void throwNull() {
            code.add(DO_PUSH, 0);
            code.add(DO_THROW, 1);
        }

        private void beginLock() {
            tokens.advance();
            open('(');
            if (found(MONITOR)) {
                code.add(DO_LOCK, tokens.value);
                tokens.advance();
            } else {
                expect(NULL);
                throwNull();
            }
            close(')');
            open('{');
            Open lock = opens.push(LOCK, depth, names.count);
            lock.exit = code.newTarget();
            depth++;
        }

        private void beginSwitch() {
            tokens.advance();
            open('(');
            expression();
            close(')');
            open('{');
            Open choice = opens.push(SWITCH, depth, names.count);
            choice.next = code.newTarget();
            choice.exit = code.newTarget();
            choice.firstCase = code.caseCount;
            code.add(DO_GOTO, choice.next);
        }

        private void beginTry() {
            Open attempt = opens.push(TRY, depth, names.count);
            // The machine finds the finally behind the handler.
            attempt.next = code.newTarget();
            attempt.other = code.newTarget();
            attempt.exit = code.newTarget();
            tokens.advance();
            code.add(DO_ENTER, attempt.next);
            depth++;
            if (skip(WITH)) {
                attempt.whole = true;
                openResource();
                for (int i = 0; i < TAPE && skip(','); i++) {
                    openResource();
                }
            }
            open('{');
        }

        private void openResource() {
            if (!found(RESOURCE)) {
                misplaced();
                return;
            }
            code.add(DO_OPEN, tokens.value);
            tokens.advance();
        }

        private void endBody(Open top) {
            switch (top.sort) {
                case IF:
                    endIf(top);
                    return;
                case ELSE:
                    code.aim(top.exit);
                    alive = alive || top.ends;
                    break;
                case LABEL:
                    code.aim(top.exit);
                    alive = alive || opens.isGoneTo(top, false);
                    break;
                case DO:
                    endDo(top);
                    break;
                default:
                    code.add(DO_GOTO, top.next);
                    code.aim(top.exit);
                    alive = !top.never || opens.isGoneTo(top, false);
            }
            names.count = top.namesBefore;
            opens.pop();
        }

        private void endIf(Open top) {
            if (!skip(ELSE)) {
                code.aim(top.next);
                alive = true;
                opens.pop();
                return;
            }
            top.sort = ELSE;
            top.begun = false;
            top.ends = alive;
            top.exit = code.newTarget();
            code.add(DO_GOTO, top.exit);
            code.aim(top.next);
            alive = true;
        }

        private void endDo(Open top) {
            boolean ends = alive || opens.isGoneTo(top, true);
            expect(WHILE);
            code.aim(top.next);
            boolean never = conditionInside();
            expect(';');
            code.add(DO_IF_NOT, top.exit);
            code.add(DO_GOTO, top.other);
            code.aim(top.exit);
            alive = ends && !never || opens.isGoneTo(top, false);
        }

        /** At the } of what holds many S, or at the end. */
        private void endList(Open top) {
            if (top.sort == ROOT) {
                expect(END);
                code.endReached = alive;
                code.add(DO_END, 0);
                opens.pop();
                return;
            }
            if (top.sort == ARM && alive) {
                notReached(tokens.place);
            }
            close('}');
            names.count = top.namesBefore;
            switch (top.sort) {
                case LOCK:
                    endLock(top);
                    break;
                case SWITCH:
                    endSwitch(top);
                    break;
                case TRY: case CATCH:
                    endGuarded(top);
                    break;
                case FINALLY:
                    endFinally(top);
                    break;
                default:
                    opens.pop();
            }
        }

        private void endLock(Open top) {
            leave(top.exit, top.depth);
            code.aim(top.exit);
            depth--;
            opens.pop();
        }

        private void endSwitch(Open top) {
            code.add(DO_GOTO, top.exit);
            code.aim(top.next);
            code.addCases(top.firstCase, top.other >= 0 ? top.other : top.exit);
            code.aim(top.exit);
            alive = alive || top.other < 0 || opens.isGoneTo(top, false);
            opens.pop();
        }

        /** Behind a try's BLOCK or that of a CATCH: another CATCH, finally, or no more. */
        private void endGuarded(Open top) {
            leave(top.exit, top.depth);
            code.aim(top.next);
            top.ends = top.ends || alive;
            if (found(CATCH) || found(FINALLY)) {
                top.sort = GUARDED;
            } else if (top.whole) {
                code.add(DO_UNCAUGHT, 0);
                code.aim(top.exit);
                alive = top.ends;
                depth--;
                opens.pop();
            } else {
                misplaced();
            }
        }

        private void beginCatch(Open top) {
            int body = code.newTarget();
            top.sort = CATCH;
            top.whole = true;
            top.next = code.newTarget();
            tokens.advance();
            open('(');
            caughtKind(top, body);
            for (int i = 0; i < TAPE && skip('|'); i++) {
                caughtKind(top, body);
            }
            int cell = code.newCells(1);
            names.add(newName(), cell, depth - 1);
            close(')');
            open('{');
            code.add(DO_GOTO, top.next);
            code.aim(body);
            code.add(DO_CAUGHT, cell);
            alive = true;
        }

        private void caughtKind(Open top, int body) {
            if (!found(KIND)) {
                misplaced();
                return;
            }
            int number = tokens.value;
            if (!told.isKind(number)) {
                fail(3, tokens.place);
            }
            for (int above = 0; above < KINDS; above++) {
                if ((top.caught >> above & 1) == 1 && told.isUnder(number, above)) {
                    fail(6, tokens.place);
                }
            }
            top.caught |= 1 << number;
            code.add(DO_MATCH, body * KIND_ROOM + number);
            tokens.advance();
        }

        private void beginFinally(Open top) {
            top.sort = FINALLY;
            top.finallyJump = opens.jumpCount;
            tokens.advance();
            open('{');
            code.add(DO_UNCAUGHT, 0);
            code.aim(top.other);
            alive = true;
        }

        private void endFinally(Open top) {
            code.add(DO_RESUME, 0);
            code.aim(top.exit);
            if (!alive) {
                opens.loseJumps(top.firstJump, top.finallyJump);
            }
            alive = alive && top.ends;
            depth--;
            opens.pop();
        }

        void armBlock(int exit) {
            boolean aliveBefore = alive;
            int floor = opens.count;
            open('{');
            Open arm = opens.push(ARM, depth, names.count);
            arm.exit = exit;
            arm.outerArm = opens.arm;
            opens.arm = floor;
            alive = true;
            turns(floor);
            opens.arm = arm.outerArm;
            alive = aliveBefore;
        }
    }

    /** Runs the program. */
    private static final class Machine {
        private final Told told;
        private final Code code;
        private final int[] cells = new int[720];
        private final int[] values = new int[600];
        private final Frame[] frames = new Frame[24];
        private final Thrown[] pool = new Thrown[24];
        private final int[] opened = new int[320];
        private final int[] rows = new int[2 * MOST_ROWS];
        private int height;
        private int place;
        private int depth;
        private int openedCount;
        private int rowCount;
        private int steps;
        private int taken;
        private int outcome;
        private int way;
        private int wayValue;
        private int wayTarget;
        private Thrown wayThrown;

        Machine(Told told, Code code) {
            this.told = told;
            this.code = code;
        }

        int perform(int a, int b) {
            for (int i = 0; i < code.cellCount && i < cells.length; i++) {
                cells[i] = 0;
            }
            put(cells, 0, a);
            put(cells, 1, b);
            height = 0;
            place = 0;
            depth = 0;
            openedCount = 0;
            rowCount = 0;
            steps = 0;
            taken = 0;
            way = ON;
            wayValue = 0;
            wayThrown = null;
            outcome = GOING;
            for (int tick = 0; tick < TICKS && outcome == GOING; tick++) {
                if (way == ON) {
                    instruction();
                } else {
                    leaveOne();
                }
            }
            return outcome;
        }

        int answer(int what) {
            Thrown last = lastThrown();
            switch (what) {
                case 0:
                    return steps;
                case 1:
                    return rowCount;
                case 2:
                    return outcome == RETURNED ? wayValue : 0;
                case 3:
                    return last == null ? -1 : last.sort;
                case 4:
                    return last == null ? 0 : last.number;
                case 5:
                    return last == null ? 0 : last.count;
                default:
                    return taken;
            }
        }

        Thrown lastThrown() {
            return outcome == THREW ? wayThrown : null;
        }

        private void instruction() {
            int op = at(code.ops, place);
            int argument = at(code.arguments, place);
            place++;
            if (op < DO_ADD) {
                move(op, argument);
            } else if (op < DO_GOTO) {
                combine(op);
            } else if (op < DO_END) {
                steer(op, argument);
            } else if (op < DO_MATCH) {
                act(op, argument);
            } else {
                turn(op, argument);
            }
        }

        private void push(int value) {
            put(values, height, value);
            height++;
        }

        private int pop() {
            height--;
            return at(values, height);
        }

        private void move(int op, int argument) {
            switch (op) {
                case DO_PUSH:
                    push(argument);
                    break;
                case DO_LOAD:
                    push(at(cells, argument));
                    break;
                case DO_STORE:
                    put(cells, argument, pop());
                    break;
                case DO_INCREASE:
                    put(cells, argument, at(cells, argument) + 1);
                    break;
                case DO_NEGATE:
                    push(-pop());
                    break;
                case DO_NOT:
                    push(1 - pop());
                    break;
                default:
                    pop();
            }
        }

        private void combine(int op) {
            int right = pop();
            int left = pop();
            if (op >= DO_LESS) {
                push(compares(op, left, right) ? 1 : 0);
                return;
            }
            switch (op) {
                case DO_ADD:
                    push(left + right);
                    break;
                case DO_SUBTRACT:
                    push(left - right);
                    break;
                case DO_MULTIPLY:
                    push(left * right);
                    break;
                default:
                    divide(op, left, right);
            }
        }

        private void divide(int op, int left, int right) {
            if (right == 0) {
                raise(2, 0);
            } else {
                push(op == DO_DIVIDE ? left / right : left % right);
            }
        }

        private static boolean compares(int op, int left, int right) {
            switch (op) {
                case DO_LESS:
                    return left < right;
                case DO_AT_MOST:
                    return left <= right;
                case DO_MORE:
                    return left > right;
                case DO_AT_LEAST:
                    return left >= right;
                case DO_SAME:
                    return left == right;
                default:
                    return left != right;
            }
        }

        private void steer(int op, int argument) {
            switch (op) {
                case DO_GOTO:
                    place = at(code.targets, argument);
                    break;
                case DO_IF_NOT:
                    goIf(pop() == 0, argument);
                    break;
                case DO_KEEP_FALSE: case DO_KEEP_TRUE:
                    keep(op == DO_KEEP_TRUE, argument);
                    break;
                case DO_CASE:
                    compareCase(argument);
                    break;
                case DO_IF_CALM:
                    goIf(!told.assertsOn, argument);
                    break;
                case DO_ROW:
                    fillRow(argument);
                    break;
                case DO_HAS:
                    push(at(cells, argument) < at(cells, argument + 1) ? 1 : 0);
                    break;
                default:
                    push(at(cells, argument + 2 + at(cells, argument)));
                    put(cells, argument, at(cells, argument) + 1);
            }
        }

        private void goIf(boolean so, int target) {
            if (so) {
                place = at(code.targets, target);
            }
        }

        /** The left side is the answer if it tells. */
        private void keep(boolean telling, int target) {
            boolean left = at(values, height - 1) != 0;
            if (left == telling) {
                place = at(code.targets, target);
            } else {
                pop();
            }
        }

        private void compareCase(int target) {
            int value = pop();
            if (at(values, height - 1) == value) {
                pop();
                place = at(code.targets, target);
            }
        }

        private void fillRow(int base) {
            int count = pop();
            put(cells, base, 0);
            put(cells, base + 1, count);
            for (int i = count - 1; i >= 0; i--) {
                put(cells, base + 2 + i, pop());
            }
        }

        private void act(int op, int argument) {
            switch (op) {
                case DO_STEP:
                    step();
                    break;
                case DO_LOG:
                    note(LOGGED, pop());
                    break;
                case DO_LOCK:
                    enter(LOCKED, argument);
                    taken++;
                    note(TAKEN, argument);
                    break;
                case DO_ENTER:
                    enter(IN_BODY, argument);
                    break;
                case DO_OPEN:
                    openOne(argument);
                    break;
                default:
                    outcome = ENDED;
            }
        }

        private void step() {
            if (steps >= MOST_STEPS) {
                outcome = SPENT;
            } else {
                steps++;
            }
        }

        private void note(int sort, int number) {
            if (rowCount < MOST_ROWS) {
                put(rows, 2 * rowCount, sort);
                put(rows, 2 * rowCount + 1, number);
                rowCount++;
            }
        }

        /** The argument is the MONITOR, or the target of the handler. */
        private void enter(int phase, int argument) {
            int index = Math.min(depth, frames.length - 1);
            Frame made = frames[index];
            if (made == null) {
                made = new Frame();
                frames[index] = made;
            }
            made.phase = phase;
            made.argument = argument;
            made.height = height;
            made.openedBefore = openedCount;
            made.thrown = null;
            depth = index + 1;
        }

        private Frame frame(int index) {
            return index >= 0 && index < depth && index < frames.length ? frames[index] : null;
        }

        private void openOne(int r) {
            if (at(told.opening, r) >= 0) {
                raise(at(told.opening, r), r);
            } else if (at(told.isNull, r) == 0) {
                note(OPENED, r);
                put(opened, openedCount, r);
                openedCount++;
            }
        }

        private void turn(int op, int argument) {
            switch (op) {
                case DO_LEAVE:
                    go(LEAVING, 0, argument);
                    break;
                case DO_YIELD:
                    go(YIELDING, pop(), argument);
                    break;
                case DO_RETURN:
                    go(RETURNING, pop(), 0);
                    break;
                case DO_THROW:
                    raise(argument, pop());
                    break;
                case DO_RETHROW:
                    throwAgain(frame(argument));
                    break;
                case DO_RESUME:
                    resume(frame(depth - 1));
                    break;
                default:
                    handle(op, argument, frame(depth - 1));
            }
        }

        private void handle(int op, int argument, Frame top) {
            if (top == null || top.thrown == null) {
                return;
            }
            if (op == DO_UNCAUGHT) {
                throwAgain(top);
            } else if (op == DO_CAUGHT) {
                put(cells, argument, top.thrown.number);
            } else {
                goIf(told.isUnder(top.thrown.sort, argument % KIND_ROOM), argument / KIND_ROOM);
            }
        }

        private void go(int newWay, int value, int target) {
            way = newWay;
            wayValue = value;
            wayTarget = target;
        }

        private void raise(int sort, int number) {
            wayThrown = freeThrown();
            wayThrown.sort = sort;
            wayThrown.number = number;
            wayThrown.count = 0;
            go(THROWING, 0, 0);
        }

        private void throwAgain(Frame holder) {
            if (holder != null) {
                wayThrown = holder.thrown;
                go(THROWING, 0, 0);
            }
        }

        /** One that no frame holds: there are more of them than frames. */
        private Thrown freeThrown() {
            for (int i = 0; i < pool.length; i++) {
                if (pool[i] == null) {
                    pool[i] = new Thrown();
                }
                if (!isHeld(pool[i])) {
                    return pool[i];
                }
            }
            return new Thrown();
        }

        private boolean isHeld(Thrown one) {
            for (int i = 0; i < depth && i < frames.length; i++) {
                Frame here = frames[i];
                if (here != null && here.thrown == one) {
                    return true;
                }
            }
            return false;
        }

        private void resume(Frame top) {
            if (top != null) {
                depth--;
                wayThrown = top.thrown;
                go(top.way, top.wayValue, top.wayTarget);
            }
        }

        /** Arrives, or goes on towards the end of the innermost frame. */
        private void leaveOne() {
            Frame top = frame(depth - 1);
            if (top == null || depth <= wayTarget % DEPTHS) {
                arrive();
            } else if (top.phase == IN_BODY) {
                leaveBody(top);
            } else if (top.phase == IN_CATCHES && at(code.targets, top.argument + 1) >= 0) {
                enterFinally(top);
            } else {
                if (top.phase == LOCKED) {
                    taken--;
                    note(LET_GO, top.argument);
                }
                depth--;
            }
        }

        private void arrive() {
            if (way == RETURNING) {
                outcome = RETURNED;
            } else if (way == THROWING) {
                outcome = THREW;
            } else {
                if (way == YIELDING) {
                    push(wayValue);
                }
                place = at(code.targets, wayTarget / DEPTHS);
                way = ON;
            }
        }

        private void leaveBody(Frame top) {
            for (int i = openedCount - 1; i >= top.openedBefore; i--) {
                closeOne(at(opened, i));
            }
            openedCount = top.openedBefore;
            top.phase = IN_CATCHES;
            if (way == THROWING) {
                top.thrown = wayThrown;
                begin(top, top.argument);
            }
        }

        private void closeOne(int r) {
            int sort = at(told.closing, r);
            note(CLOSED, r);
            if (sort < 0) {
                return;
            }
            if (way == THROWING && wayThrown != null) {
                wayThrown.suppress(sort, r);
            } else {
                raise(sort, r);
            }
        }

        private void enterFinally(Frame top) {
            top.phase = IN_FINALLY;
            top.thrown = wayThrown;
            top.way = way;
            top.wayValue = wayValue;
            top.wayTarget = wayTarget;
            begin(top, top.argument + 1);
        }

        private void begin(Frame top, int target) {
            height = top.height;
            place = at(code.targets, target);
            way = ON;
        }
    }

    /** A lock or a try that a run is in, and, in a finally, how the run goes on behind it. */
    private static final class Frame {
        private int phase;
        private int argument;
        private int height;
        private int openedBefore;
        private Thrown thrown;
        private int way;
        private int wayValue;
        private int wayTarget;
    }

    /** What is THROWN, with what is SUPPRESSED under it. */
    private static final class Thrown {
        private final int[] kinds = new int[MOST_SUPPRESSED];
        private final int[] numbers = new int[MOST_SUPPRESSED];
        private int sort;
        private int number;
        private int count;

        void suppress(int other, int otherNumber) {
            if (count < MOST_SUPPRESSED) {
                put(kinds, count, other);
                put(numbers, count, otherNumber);
                count++;
            }
        }
    }
}
