import java.util.Arrays;

/**
 * Scripts over a board's objects, read from a text and walked. The words in capitals are those of
 * the document; README.md says how the parts below work together.
 */
public final class BoardScript {
    public static final int NONE = -1;

    private static final int MAX_TEXT = 400;
    private static final int MAX_STATEMENTS = 100;
    private static final int MAX_BLOCKS = 2;
    private static final int MAX_ATOMS = 3;
    private static final int MAX_CALLS = 2;
    private static final int MAX_STEPS = 300;

    // A script's own BLOCKS, then those of a function, then those of a function within it.
    private static final int DEEPEST = MAX_BLOCKS * (1 + MAX_CALLS);

    // How a walk ends; these are run()'s answers too.
    private static final int DONE = 0;
    private static final int FAILED = 1;
    private static final int SPENT = 2;

    // The ERRORS' kinds.
    private static final int NO_ERROR = 0;
    private static final int BY_ZERO = 1;
    private static final int NOT_THERE = 2;
    private static final int TOO_MANY = 3;
    private static final int TOLD = 4;
    private static final int WITHIN_TWO = 5;
    private static final int NO_FUNCTION = 6;
    private static final int ORDERED = 7;

    private static final int RULE_FAILED = -2;

    private final char[] text = new char[MAX_TEXT];
    private int length;
    private int failing = NONE;
    private final Script blank;
    private Script script;
    private final Board board;
    private final Reckoner reckoner;
    private final Report report;
    private final Reader reader;
    private final Walk walk;

    public BoardScript() {
        blank = new Script(new Block(), new Statement[Script.FUNCTIONS], 0);
        script = blank;
        board = new Board();
        reckoner = new Reckoner(board);
        report = new Report();
        reader = new Reader();
        walk = new Walk(board, reckoner, report);
    }

    public boolean unit(int u) {
        boolean fits = u == '\n' || (u >= ' ' && u <= '~');
        if (!fits || length >= MAX_TEXT) {
            return false;
        }
        text[length] = (char) u;
        length++;
        return true;
    }

    public int read() {
        Script next = reader.scriptOf(text, length);
        length = 0;
        if (next == null) {
            return -1 - reader.here;
        }
        script = next;
        report.forget();
        return script.statements;
    }

    public int object(int kind) {
        return board.create(kind);
    }

    public boolean field(int object, int name, long v) throws IndexOutOfBoundsException {
        int slot = board.slotOf(object, name);
        if (slot == NONE) {
            throw new IndexOutOfBoundsException("no such object or field");
        }
        boolean other = board.fields[slot] != v;
        board.fields[slot] = v;
        return other;
    }

    public int run(long steps) throws IllegalArgumentException {
        if (steps < 1 || steps > MAX_STEPS) {
            throw new IllegalArgumentException("steps are not 1 to 300");
        }
        return walk.walked(script, (int) steps, failing);
    }

    public long at(int object, int name) throws IndexOutOfBoundsException {
        int slot = board.slotOf(object, name);
        if (slot == NONE) {
            throw new IndexOutOfBoundsException("no such object or field");
        }
        return board.fields[slot];
    }

    public int query(int k) {
        return report.foundAt(k);
    }

    public int output(int i) throws IndexOutOfBoundsException {
        if (i < 0 || i >= report.outputCount) {
            throw new IndexOutOfBoundsException("no such output");
        }
        return report.outputs[i];
    }

    public int error(int what) throws IndexOutOfBoundsException {
        switch (what) {
            case 0:
                return report.kind;
            case 1:
                return report.where == null ? NONE : report.where.place;
            case 2:
                return report.value;
            default:
                throw new IndexOutOfBoundsException("an error has 0, 1 and 2");
        }
    }

    public int closed(int k) {
        return k < 0 || k >= report.closingCount ? NONE : report.closings[k];
    }

    public boolean restored() {
        return report.putBack;
    }

    public int added(int k) {
        Statement rule = k < 0 || k >= report.ruleCount ? null : report.rules[k];
        if (rule == null) {
            return NONE;
        }
        long value = reckoner.value(rule.expression);
        if (reckoner.fault != NO_ERROR) {
            return RULE_FAILED;
        }
        return value != 0 ? 1 : 0;
    }

    public long steps() {
        return report.taken;
    }

    public boolean failAt(int act) {
        int wanted = act < 0 ? NONE : act;
        boolean other = wanted != failing;
        failing = wanted;
        return other;
    }

    public int list(int length) {
        return board.resize(length) ? NO_ERROR : TOO_MANY;
    }

    public int line() {
        return report.where == null ? 0 : report.where.line;
    }

    public void clear() {
        length = 0;
        failing = NONE;
        script = blank;
        board.empty();
        report.forget();
    }

    /** The OBJECTS and the LIST, with a row for each level of BLOCKS in which an ACT may keep them. */
    private static final class Board {
        static final int OBJECTS = 12;
        static final int FIELDS = 6;
        static final int PLACES = 20;

        final long[] fields = new long[OBJECTS * FIELDS];
        int objects;
        final long[] places = new long[PLACES];
        int listLength;
        final long[][] kept = new long[DEEPEST][OBJECTS * FIELDS];
        final int[] keptObjects = new int[DEEPEST];

        /** Where an OBJECT's FIELD is in fields, or NONE. */
        int slotOf(long object, int name) {
            if (object < 0 || object >= objects || name < 0 || name >= FIELDS) {
                return NONE;
            }
            return (int) object * FIELDS + name;
        }

        /** Where a place of the LIST is in places, or NONE. */
        int placeOf(long place) {
            return place < 0 || place >= listLength ? NONE : (int) place;
        }

        /** The new OBJECT's number, or NONE. */
        int create(long kind) {
            if (objects >= OBJECTS) {
                return NONE;
            }
            int first = objects * FIELDS;
            fields[first] = kind;
            // An OBJECT from before clear() may have left its FIELDS here.
            for (int name = 1; name < FIELDS; name++) {
                fields[first + name] = 0;
            }
            objects++;
            return objects - 1;
        }

        boolean resize(long length) {
            if (length < 0 || length > PLACES) {
                return false;
            }
            listLength = (int) length;
            Arrays.fill(places, 0L);
            return true;
        }

        void keep(int level) {
            if (level >= 0 && level < DEEPEST) {
                keptObjects[level] = objects;
                System.arraycopy(fields, 0, kept[level], 0, fields.length);
            }
        }

        void putBack(int level) {
            if (level >= 0 && level < DEEPEST) {
                objects = keptObjects[level];
                System.arraycopy(kept[level], 0, fields, 0, fields.length);
            }
        }

        void empty() {
            objects = 0;
            listLength = 0;
        }
    }

    /** A STATEMENT; its kind is its first character, but 'a' for all VARIABLES and 'A' for all calls. */
    private static final class Statement {
        final char kind;
        final int place;
        final int line;
        /** The number of a VARIABLE, a FIELD or a function. */
        int operand;
        int[] target;
        int[] expression;
        Block first;
        Block second;
        Statement next;

        Statement(char kind, int operand, int place, int line) {
            this.kind = kind;
            this.operand = operand;
            this.place = place;
            this.line = line;
        }
    }

    private static final class Block {
        Statement first;
        Statement last;

        void append(Statement s) {
            if (last == null) {
                first = s;
            } else {
                last.next = s;
            }
            last = s;
        }
    }

    private static final class Script {
        static final int FUNCTIONS = 26;

        final Block body;
        final Statement[] functions;
        final int statements;

        Script(Block body, Statement[] functions, int statements) {
            this.body = body;
            this.functions = functions;
            this.statements = statements;
        }

        /** The STATEMENT that tells a function, or null. */
        Statement function(int letter) {
            return letter < 0 || letter >= functions.length ? null : functions[letter];
        }
    }

    /**
     * An EXPRESSION's code: its parts in the order in which they are reckoned, operands ahead of what
     * joins them, so that reckoning needs a stack and no recursion. A part is one int: what to do in
     * its lowest bits (a character of these, or what joins two), above them a number for it.
     */
    private static final class Code {
        static final char NUMBER = 'n';
        static final char VARIABLE = 'v';
        static final char FIELD = '@';
        static final char PLACE = '\'';
        static final char COUNT = '#';
        static final char NEGATE = '~';

        static final int SHIFT = 7;
        static final int MASK = 127;
    }

    /**
     * Reads a text. Each method answers whether (or with what) it went well; when it did not, here is
     * the place of the character by which the text is no script.
     */
    private static final class Reader {
        private static final char END = 0;
        private static final int PRODUCT = 2;
        private static final int MAX_DIGITS = 4;

        private char[] text = new char[0];
        private int length;
        int here;
        private int line;
        private int told;
        private Statement[] functions = new Statement[0];
        private final int[] code = new int[MAX_TEXT];
        private int size;

        /** The script, or null. */
        Script scriptOf(char[] source, int sourceLength) {
            text = source;
            length = Math.min(sourceLength, source.length);
            here = 0;
            line = 1;
            told = 0;
            functions = new Statement[Script.FUNCTIONS];
            Block body = block(0, END);
            return body == null ? null : new Script(body, functions, told);
        }

        private char peek() {
            return here < length ? text[here] : END;
        }

        private boolean take(char wanted) {
            if (here >= length || text[here] != wanted) {
                return false;
            }
            here++;
            return true;
        }

        private void skipLineFeeds() {
            while (here < length && text[here] == '\n') {
                here++;
                line++;
            }
        }

        /** STATEMENTS up to the end character, which is left where it is. */
        private Block block(int depth, char end) {
            Block block = new Block();
            for (int n = 0; n <= MAX_STATEMENTS; n++) {
                skipLineFeeds();
                if (peek() == end) {
                    return block;
                }
                Statement s = statement(depth);
                if (s == null) {
                    return null;
                }
                block.append(s);
            }
            return null;
        }

        private Statement statement(int depth) {
            char first = peek();
            String shape = shapeOf(first);
            if (shape.isEmpty() || told >= MAX_STATEMENTS) {
                return null;
            }
            Statement s = begun(first);
            told++;
            here++;
            for (int i = 0; i < shape.length(); i++) {
                if (!part(s, shape.charAt(i), depth)) {
                    return null;
                }
            }
            return s;
        }

        private Statement begun(char first) {
            if (isVariable(first)) {
                return new Statement('a', first - 'a', here, line);
            }
            if (isFunction(first)) {
                return new Statement('A', first - 'A', here, line);
            }
            return new Statement(first, 0, here, line);
        }

        /** What follows a STATEMENT's first character, in part()'s letters; empty when none begins so. */
        private static String shapeOf(char first) {
            if (isVariable(first)) {
                return "=E;";
            }
            if (isFunction(first)) {
                return ";";
            }
            switch (first) {
                case '@':
                    return "A:D=E;";
                case '\'':
                    return "A=E;";
                case '!':
                case '^':
                case '+':
                case '&':
                case '|':
                case '<':
                    return "E;";
                case '?':
                    return "EBO";
                case '*':
                    return "EB";
                case '[':
                    return "S";
                case '~':
                    return "BC";
                case ':':
                    return "FB";
                default:
                    return "";
            }
        }

        /**
         * One part of a STATEMENT: A an ATOM, E an EXPRESSION, D a FIELD's digit, F a new function's
         * letter, B and C the first and second BLOCK, O a second one that may be left out, S an
         * ACT's BLOCK; any other stands for itself.
         */
        private boolean part(Statement s, char part, int depth) {
            switch (part) {
                case 'A':
                    size = 0;
                    s.target = atom(0) ? Arrays.copyOf(code, size) : null;
                    return s.target != null;
                case 'E':
                    size = 0;
                    s.expression = ranked(0, 0) ? Arrays.copyOf(code, size) : null;
                    return s.expression != null;
                case 'D':
                    s.operand = fieldDigit();
                    return s.operand != NONE;
                case 'F':
                    return newFunction(s, depth);
                case 'B':
                    s.first = enclosed('{', '}', depth);
                    return s.first != null;
                case 'C':
                    s.second = enclosed('{', '}', depth);
                    return s.second != null;
                case 'O':
                    s.second = peek() == '{' ? enclosed('{', '}', depth) : new Block();
                    return s.second != null;
                case 'S':
                    // An ACT's first character is its BLOCK's.
                    here = s.place;
                    s.first = enclosed('[', ']', depth);
                    return s.first != null;
                default:
                    return take(part);
            }
        }

        private Block enclosed(char open, char close, int depth) {
            if (depth >= MAX_BLOCKS || !take(open)) {
                return null;
            }
            Block block = block(depth + 1, close);
            return block != null && take(close) ? block : null;
        }

        private boolean newFunction(Statement s, int depth) {
            char letter = peek();
            if (!isFunction(letter)) {
                return false;
            }
            s.operand = letter - 'A';
            if (depth > 0 || s.operand >= functions.length || functions[s.operand] != null) {
                here = s.place;
                return false;
            }
            functions[s.operand] = s;
            here++;
            return true;
        }

        private int fieldDigit() {
            int digit = here < length ? text[here] - '0' : NONE;
            if (digit < 0 || digit >= Board.FIELDS) {
                return NONE;
            }
            here++;
            return digit;
        }

        /** By rank: 0 an EXPRESSION, 1 a SUM, 2 a PRODUCT, and behind it an ATOM. */
        private boolean ranked(int rank, int depth) {
            if (rank > PRODUCT) {
                return atom(depth);
            }
            if (!ranked(rank + 1, depth)) {
                return false;
            }
            int most = rank == 0 ? 1 : MAX_TEXT;
            for (int n = 0; n < most; n++) {
                char joint = peek();
                if (!joins(rank, joint)) {
                    return true;
                }
                here++;
                if (!ranked(rank + 1, depth) || !emit(joint, 0)) {
                    return false;
                }
            }
            return true;
        }

        private static boolean joins(int rank, char c) {
            switch (c) {
                case '<':
                case '=':
                    return rank == 0;
                case '+':
                case '-':
                    return rank == 1;
                case '*':
                case '/':
                case '%':
                    return rank == PRODUCT;
                default:
                    return false;
            }
        }

        private boolean atom(int depth) {
            char first = peek();
            if (isDigit(first)) {
                return emit(Code.NUMBER, number());
            }
            if (isVariable(first)) {
                here++;
                return emit(Code.VARIABLE, first - 'a');
            }
            if (first == Code.COUNT) {
                here++;
                return emit(Code.COUNT, 0);
            }
            if (depth >= MAX_ATOMS) {
                return false;
            }
            switch (first) {
                case '(':
                    here++;
                    return ranked(0, depth + 1) && take(')');
                case '-':
                    here++;
                    return atom(depth + 1) && emit(Code.NEGATE, 0);
                case Code.PLACE:
                    here++;
                    return atom(depth + 1) && emit(Code.PLACE, 0);
                case Code.FIELD:
                    here++;
                    if (!atom(depth + 1) || !take(':')) {
                        return false;
                    }
                    int name = fieldDigit();
                    return name != NONE && emit(Code.FIELD, name);
                default:
                    return false;
            }
        }

        /** A fifth digit is left where it is, and nothing that may follow an ATOM is one. */
        private int number() {
            int value = 0;
            for (int n = 0; n < MAX_DIGITS && here < length; n++) {
                int digit = text[here] - '0';
                if (digit < 0 || digit > 9) {
                    break;
                }
                value = value * 10 + digit;
                here++;
            }
            return value;
        }

        private boolean emit(char operation, int operand) {
            if (size >= code.length) {
                return false;
            }
            code[size] = (operand << Code.SHIFT) | operation;
            size++;
            return true;
        }

        private static boolean isDigit(char c) {
            return c >= '0' && c <= '9';
        }

        private static boolean isVariable(char c) {
            return c >= 'a' && c <= 'z';
        }

        private static boolean isFunction(char c) {
            return c >= 'A' && c <= 'Z';
        }
    }

    /** Reckons code over the VARIABLES and a board. */
    private static final class Reckoner {
        static final int VARIABLES = 26;

        // At each of four depths a SUM, a PRODUCT and an ATOM may wait for what is joined to them.
        private static final int STACK = 3 * (MAX_ATOMS + 1) + 1;

        private final Board board;
        final long[] variables = new long[VARIABLES];
        private final long[] stack = new long[STACK];
        private int top;
        /** The kind of the ERROR that the latest value() made, or NO_ERROR. */
        int fault;

        Reckoner(Board board) {
            this.board = board;
        }

        long value(int[] code) {
            top = 0;
            fault = NO_ERROR;
            if (code == null) {
                return 0;
            }
            for (int i = 0; i < code.length && fault == NO_ERROR; i++) {
                reckon((char) (code[i] & Code.MASK), code[i] >> Code.SHIFT);
            }
            return fault == NO_ERROR ? pop() : 0;
        }

        private void reckon(char operation, int operand) {
            switch (operation) {
                case Code.NUMBER:
                    push(operand);
                    break;
                case Code.VARIABLE:
                    push(operand < 0 || operand >= VARIABLES ? 0 : variables[operand]);
                    break;
                case Code.COUNT:
                    push(board.objects);
                    break;
                case Code.NEGATE:
                    push(-pop());
                    break;
                case Code.FIELD:
                    push(cell(board.fields, board.slotOf(pop(), operand)));
                    break;
                case Code.PLACE:
                    push(cell(board.places, board.placeOf(pop())));
                    break;
                default:
                    long right = pop();
                    long left = pop();
                    push(joined(operation, left, right));
            }
        }

        private long joined(char joint, long left, long right) {
            switch (joint) {
                case '+':
                    return left + right;
                case '-':
                    return left - right;
                case '*':
                    return left * right;
                case '<':
                    return left < right ? 1 : 0;
                case '=':
                    return left == right ? 1 : 0;
                default:
                    break;
            }
            if (right == 0) {
                fault = BY_ZERO;
                return 0;
            }
            return joint == '/' ? left / right : left % right;
        }

        private long cell(long[] row, int index) {
            if (index < 0 || index >= row.length) {
                fault = NOT_THERE;
                return 0;
            }
            return row[index];
        }

        private void push(long value) {
            if (top >= 0 && top < STACK) {
                stack[top] = value;
                top++;
            }
        }

        private long pop() {
            if (top <= 0 || top > STACK) {
                return 0;
            }
            top--;
            return stack[top];
        }
    }

    /** What the latest RUN left to be asked for. */
    private static final class Report {
        static final int OUTPUTS = 40;
        static final int RULES = 8;
        static final int CLOSINGS = 20;

        final int[] outputs = new int[OUTPUTS];
        int outputCount;
        final Statement[] rules = new Statement[RULES];
        int ruleCount;
        final int[] closings = new int[CLOSINGS];
        int closingCount;
        /** The latest QUERY's OBJECTS, a bit each. */
        int found;
        boolean putBack;
        int taken;
        /** The ERROR on its way outwards; where is null when there is none. */
        int kind;
        Statement where;
        int value;

        void forget() {
            outputCount = 0;
            ruleCount = 0;
            closingCount = 0;
            found = 0;
            putBack = false;
            taken = 0;
            note(NO_ERROR, null, 0);
        }

        void note(int newKind, Statement newWhere, int newValue) {
            kind = newKind;
            where = newWhere;
            value = newValue;
        }

        void addOutput(int output) {
            if (outputCount < OUTPUTS) {
                outputs[outputCount] = output;
                outputCount++;
            }
        }

        void addRule(Statement rule) {
            if (ruleCount < RULES) {
                rules[ruleCount] = rule;
                ruleCount++;
            }
        }

        void addClosing(int place) {
            if (closingCount < CLOSINGS) {
                closings[closingCount] = place;
                closingCount++;
            }
        }

        int foundAt(int k) {
            int before = 0;
            for (int object = 0; object < Board.OBJECTS; object++) {
                if ((found >> object & 1) == 1) {
                    if (before == k) {
                        return object;
                    }
                    before++;
                }
            }
            return NONE;
        }
    }

    /**
     * Walks a script. A walk of a part answers DONE, FAILED (the ERROR stands in the report) or SPENT.
     * level: how many BLOCKS, calls how many functions a STATEMENT is within.
     */
    private static final class Walk {
        private static final int Z = 25;

        private final Board board;
        private final Reckoner reckoner;
        private final Report report;
        private Script script;
        private int limit;
        private int failing;
        private int acts;

        Walk(Board board, Reckoner reckoner, Report report) {
            this.board = board;
            this.reckoner = reckoner;
            this.report = report;
        }

        int walked(Script newScript, int newLimit, int newFailing) {
            script = newScript;
            limit = newLimit;
            failing = newFailing;
            acts = 0;
            Arrays.fill(reckoner.variables, 0L);
            report.forget();
            int end = script == null ? DONE : block(script.body, 0, 0);
            if (end == SPENT) {
                // An ERROR may have been on its way outwards; the RUN did not end with it.
                report.note(NO_ERROR, null, 0);
            }
            return end;
        }

        private int block(Block block, int level, int calls) {
            // No script that could be read goes deeper.
            if (block == null || level > DEEPEST) {
                return DONE;
            }
            for (Statement s = block.first; s != null; s = s.next) {
                int end = statement(s, level, calls);
                if (end != DONE) {
                    return end;
                }
            }
            return DONE;
        }

        private int statement(Statement s, int level, int calls) {
            if (s.kind == ':') {
                return DONE;
            }
            if (!step()) {
                return SPENT;
            }
            switch (s.kind) {
                case '?':
                    return branch(s, level, calls);
                case '*':
                    return loop(s, level, calls);
                case '[':
                    return act(s, level, calls);
                case '~':
                    return closing(s, level, calls);
                case 'A':
                    return call(s, level, calls);
                case '@':
                    return setField(s);
                case '\'':
                    return setPlace(s);
                case '|':
                    return ask(s);
                case '&':
                    report.addRule(s);
                    return DONE;
                default:
                    return withValue(s);
            }
        }

        private boolean step() {
            if (report.taken >= limit) {
                return false;
            }
            report.taken++;
            return true;
        }

        private int fail(int kind, Statement s, int value) {
            report.note(kind, s, value);
            return FAILED;
        }

        private int branch(Statement s, int level, int calls) {
            long asked = reckoner.value(s.expression);
            if (reckoner.fault != NO_ERROR) {
                return fail(reckoner.fault, s, 0);
            }
            return block(asked != 0 ? s.first : s.second, level + 1, calls);
        }

        private int loop(Statement s, int level, int calls) {
            for (int round = 0; round <= MAX_STEPS; round++) {
                // The first time is the STATEMENT's own STEP.
                if (round > 0 && !step()) {
                    return SPENT;
                }
                long asked = reckoner.value(s.expression);
                if (reckoner.fault != NO_ERROR) {
                    return fail(reckoner.fault, s, 0);
                }
                if (asked == 0) {
                    return DONE;
                }
                int end = block(s.first, level + 1, calls);
                if (end != DONE) {
                    return end;
                }
            }
            return SPENT;
        }

        private int act(Statement s, int level, int calls) {
            int number = acts;
            acts++;
            board.keep(level);
            int end = block(s.first, level + 1, calls);
            if (end == DONE && number == failing) {
                end = fail(ORDERED, s, 0);
            }
            if (end == FAILED) {
                board.putBack(level);
                report.putBack = true;
            }
            return end;
        }

        private int closing(Statement s, int level, int calls) {
            int first = block(s.first, level + 1, calls);
            if (first == SPENT) {
                return SPENT;
            }
            report.addClosing(s.place);
            int second = block(s.second, level + 1, calls);
            // No ERROR is ever caught, so the report still holds the first one when the second is DONE.
            return second == DONE ? first : second;
        }

        private int call(Statement s, int level, int calls) {
            Statement function = script.function(s.operand);
            if (function == null) {
                return fail(NO_FUNCTION, s, 0);
            }
            if (calls >= MAX_CALLS) {
                return fail(WITHIN_TWO, s, 0);
            }
            return block(function.first, level + 1, calls + 1);
        }

        /** The OBJECT is looked for ahead of E, as the STATEMENT is written. */
        private int setField(Statement s) {
            long object = reckoner.value(s.target);
            if (reckoner.fault != NO_ERROR) {
                return fail(reckoner.fault, s, 0);
            }
            int slot = board.slotOf(object, s.operand);
            if (slot == NONE) {
                return fail(NOT_THERE, s, 0);
            }
            long value = reckoner.value(s.expression);
            if (reckoner.fault != NO_ERROR) {
                return fail(reckoner.fault, s, 0);
            }
            board.fields[slot] = value;
            return DONE;
        }

        /** The place is looked for ahead of E, as the STATEMENT is written. */
        private int setPlace(Statement s) {
            long wanted = reckoner.value(s.target);
            if (reckoner.fault != NO_ERROR) {
                return fail(reckoner.fault, s, 0);
            }
            int place = board.placeOf(wanted);
            if (place == NONE) {
                return fail(NOT_THERE, s, 0);
            }
            long value = reckoner.value(s.expression);
            if (reckoner.fault != NO_ERROR) {
                return fail(reckoner.fault, s, 0);
            }
            board.places[place] = value;
            return DONE;
        }

        private int ask(Statement s) {
            long before = reckoner.variables[Z];
            int found = 0;
            for (int object = 0; object < board.objects; object++) {
                reckoner.variables[Z] = object;
                long asked = reckoner.value(s.expression);
                if (reckoner.fault != NO_ERROR) {
                    return fail(reckoner.fault, s, 0);
                }
                if (asked != 0) {
                    found |= 1 << object;
                }
            }
            reckoner.variables[Z] = before;
            report.found = found;
            return DONE;
        }

        /** The STATEMENTS that reckon E first and then do one thing with it. */
        private int withValue(Statement s) {
            long value = reckoner.value(s.expression);
            if (reckoner.fault != NO_ERROR) {
                return fail(reckoner.fault, s, 0);
            }
            switch (s.kind) {
                case '!':
                    report.addOutput((int) value);
                    return DONE;
                case '^':
                    return fail(TOLD, s, (int) value);
                case '+':
                    return board.create(value) == NONE ? fail(TOO_MANY, s, 0) : DONE;
                case '<':
                    return board.resize(value) ? DONE : fail(TOO_MANY, s, 0);
                default:
                    if (s.operand >= 0 && s.operand < Reckoner.VARIABLES) {
                        reckoner.variables[s.operand] = value;
                    }
                    return DONE;
            }
        }
    }
}
