import java.util.Arrays;

/** A store of tables with rules, which is worked by statements that come as texts. */
public final class CascadeStore {
    public static final int NONE = -1;
    public static final long NULL = Long.MIN_VALUE;

    private static final int MOST_BYTES = 600;
    private static final int MOST_TABLES = 6;
    private static final int MOST_COLUMNS = 6;
    private static final int MOST_ROWS = 40;
    private static final int MOST_RULES = 24;
    private static final int MOST_TRIGGERS = 8;
    private static final int MOST_MARKS = 6;
    private static final int MOST_NODES = 400;
    private static final int MOST_OPEN = 10;
    private static final int MOST_STEPS = 300;
    private static final int MOST_DEPTH = 12;

    private static final int DONE = 0;
    private static final int FAULT = 1;
    private static final int BROKEN = 2;
    private static final int RAISED = 3;
    private static final int BY_ZERO = 4;
    private static final int TOO_MUCH = 5;
    private static final int NO_ROOM = 6;
    private static final int NOT_NOW = 7;

    private static final int BAD_TEXT = 1;
    private static final int MISPLACED = 2;
    private static final int THERE_ALREADY = 3;
    private static final int NOT_THERE = 4;
    private static final int NO_RULE = 5;
    private static final int TOO_MANY = 6;
    private static final int OUT_OF_PLACE = 7;

    private static final int BEFORE = 0;
    private static final int AFTER = 1;

    private static final int INSERT = 0;
    private static final int UPDATE = 1;
    private static final int DELETE = 2;
    private static final int LET = 3;
    private static final int RAISE = 4;

    private final Tape tape;
    private final Store store;
    private final StatementReader reader;
    private final Engine engine;
    private final int[] answers;

    public CascadeStore() {
        tape = new Tape();
        store = new Store();
        reader = new StatementReader(tape, store);
        engine = new Engine(store);
        answers = new int[8];
        Arrays.fill(answers, 0, 5, NONE);
    }

    public int feed(long bytes, int n) throws IllegalArgumentException, IllegalStateException {
        if (n < 1 || n > 8) {
            throw new IllegalArgumentException("n is not 1 .. 8");
        }
        if (tape.length + n > MOST_BYTES) {
            throw new IllegalStateException("the tape has no room for these");
        }
        tape.append(bytes, n);
        return tape.length;
    }

    public int run() {
        int rowsBefore = store.rows.total();
        engine.startAnew();
        boolean understood = false;
        try {
            reader.read();
            understood = true;
        } catch (IllegalStateException fault) {
            reader.undo();
        }
        int end = understood ? carryOut() : FAULT;
        tape.length = 0;
        note(end, store.rows.total() - rowsBefore);
        return end;
    }

    public int told(int what) throws IllegalArgumentException {
        if (what < 0 || what >= answers.length) {
            throw new IllegalArgumentException("there is no such thing to tell");
        }
        return answers[what];
    }

    public int count(int what) throws IllegalArgumentException {
        switch (what) {
            case 0:
                return store.tablesThere();
            case 1:
                return store.rulesThere();
            case 2:
                return store.triggersThere();
            case 3:
                return store.marksThere;
            case 4:
                return store.nodes();
            case 5:
                return store.underWay ? 1 : 0;
            case 6:
                return tape.length;
            default:
                throw new IllegalArgumentException("there is no such thing to count");
        }
    }

    public int find(int kind, long name) throws IllegalArgumentException {
        if (kind < 0 || kind > 2 + MOST_TABLES) {
            throw new IllegalArgumentException("there is no such kind");
        }
        switch (kind) {
            case 0:
                return store.tableNamed(name);
            case 1:
                return store.triggerNamed(name);
            case 2:
                return store.markNamed(name);
            default:
                return store.columnNamed(kind - 3, name);
        }
    }

    public long table(int table, int what) throws IndexOutOfBoundsException, IllegalArgumentException {
        if (!store.hasTable(table)) {
            throw new IndexOutOfBoundsException("there is no such table");
        }
        if (what < 0 || what > 3 + MOST_COLUMNS) {
            throw new IllegalArgumentException("there is no such thing to tell of a table");
        }
        switch (what) {
            case 0:
                return store.widths[table];
            case 1:
                return store.rows.sizes[table];
            case 2:
                return store.rows.latest[table] + 1;
            case 3:
                return store.tableNames[table];
            default:
                break;
        }
        if (!store.hasColumn(table, what - 4)) {
            throw new IndexOutOfBoundsException("there is no such column");
        }
        return store.columnNames[table * MOST_COLUMNS + what - 4];
    }

    public long value(int table, int k, int column) throws IndexOutOfBoundsException {
        if (!store.hasTable(table)) {
            throw new IndexOutOfBoundsException("there is no such table");
        }
        if (k < 0 || k >= store.rows.sizes[table]) {
            throw new IndexOutOfBoundsException("there is no such row");
        }
        if (column == NONE) {
            return store.rows.rowId(table, k);
        }
        if (!store.hasColumn(table, column)) {
            throw new IndexOutOfBoundsException("there is no such column");
        }
        return store.rows.cell(table, k, column);
    }

    public int rule(int rule, int what) throws IndexOutOfBoundsException, IllegalArgumentException {
        Rule asked = store.ruleAt(rule);
        if (asked == null) {
            throw new IndexOutOfBoundsException("there is no such rule");
        }
        switch (what) {
            case 0:
                return asked.kind;
            case 1:
                return asked.table;
            case 2:
                return asked.columnBits();
            case 3:
                return asked.target;
            case 4:
                return asked.mayWait ? 1 : 0;
            case 5:
                return store.waiting >> rule & 1;
            case 6:
                return asked.onDelete;
            case 7:
                return asked.onUpdate;
            default:
                throw new IllegalArgumentException("there is no such thing to tell of a rule");
        }
    }

    public long trigger(int trigger, int what) throws IndexOutOfBoundsException, IllegalArgumentException {
        Trigger asked = store.triggerAt(trigger);
        if (asked == null) {
            throw new IndexOutOfBoundsException("there is no such trigger");
        }
        switch (what) {
            case 0:
                return asked.table;
            case 1:
                return asked.time;
            case 2:
                return asked.event;
            case 3:
                return asked.act.kind;
            case 4:
                return asked.act.table;
            case 5:
                return asked.name;
            default:
                throw new IllegalArgumentException("there is no such thing to tell of a trigger");
        }
    }

    public int broken(int rule) throws IndexOutOfBoundsException {
        Rule asked = store.ruleAt(rule);
        if (asked == null) {
            throw new IndexOutOfBoundsException("there is no such rule");
        }
        return asked.firstBreaker(store.rows);
    }

    public void clear() {
        tape.length = 0;
        store.reset();
        Arrays.fill(answers, 0);
        Arrays.fill(answers, 0, 5, NONE);
    }

    private boolean isPossible() {
        switch (reader.verb) {
            case TABLE:
            case TRIGGER:
            case BEGIN:
                return !store.underWay;
            case DROP:
                return !store.underWay && (reader.noun != Token.TABLE || store.isFreeToGo(reader.number));
            case COMMIT:
            case BACK:
            case MARK:
            case LATE:
            case NOW:
                return store.underWay;
            default:
                return true;
        }
    }

    private int carryOut() {
        if (!isPossible()) {
            reader.undo();
            return NOT_NOW;
        }
        switch (reader.verb) {
            case TRIGGER:
                store.addTrigger(reader.number, reader.trigger);
                return DONE;
            case DROP:
                if (reader.noun == Token.TABLE) {
                    store.dropTable(reader.number);
                } else {
                    store.dropTrigger(reader.number);
                }
                return DONE;
            case INSERT:
            case UPDATE:
            case DELETE:
                return engine.change(reader.act);
            case BEGIN:
                store.begin();
                return DONE;
            case COMMIT:
                return store.afterCommit(engine.look(~0));
            case BACK:
                if (reader.number == NONE) {
                    store.back();
                } else {
                    store.backTo(reader.number);
                }
                return DONE;
            case MARK:
                store.addMark(reader.name);
                return DONE;
            case LATE:
                store.waiting |= reader.rules & store.rulesThatMayWait();
                return DONE;
            case NOW:
                return store.afterNow(reader.rules, engine.look(reader.rules));
            default:
                return DONE;
        }
    }

    private void note(int end, int moreRows) {
        answers[0] = end == FAULT ? tape.fault : NONE;
        answers[1] = end == FAULT ? tape.faultPlace : NONE;
        answers[2] = end == BROKEN ? engine.brokenRule : NONE;
        answers[3] = end == BROKEN ? engine.brokenRow : NONE;
        answers[4] = end == RAISED ? engine.raised : NONE;
        answers[5] = engine.begun;
        answers[6] = engine.deepest;
        answers[7] = moreRows;
    }

    /** The kinds of token; the words and signs by how they are spelt. */
    private enum Token {
        BAD(""), END(""), NAME(""), NUMBER(""),
        AFTER("after"), ALL("all"), AND("and"), BACK("back"), BEFORE("before"), BEGIN("begin"),
        CASCADE("cascade"), CHECK("check"), COMMIT("commit"), DEFAULT("default"), DELETE("delete"),
        DO("do"), DROP("drop"), INSERT("insert"), IS("is"), LATE("late"), LET("let"), MARK("mark"),
        MUST("must"), NEW("new"), NOT("not"), NOW("now"), NULL("null"), OLD("old"), ON("on"), OR("or"),
        PRIMARY("primary"), RAISE("raise"), REFER("refer"), SET("set"), SOME("some"), STOP("stop"),
        TABLE("table"), TO("to"), TRIGGER("trigger"), UNIQUE("unique"), UPDATE("update"), WHEN("when"),
        WHERE("where"),
        OPEN("("), CLOSE(")"), OPEN_SQUARE("["), CLOSE_SQUARE("]"), COMMA(","), DOT("."),
        EQUAL("="), UNLIKE("#"), LESS("<"), AT_MOST("<="), MORE(">"), AT_LEAST(">="),
        PLUS("+"), MINUS("-"), TIMES("*"), OVER("/");

        private static final Token[] KNOWN = values();

        private final long letters;

        Token(String spelling) {
            long packed = 0;
            for (int i = 0; i < spelling.length(); i++) {
                packed = packed << 8 | spelling.charAt(i);
            }
            letters = packed;
        }

        static Token spelt(long letters) {
            for (int i = 0; i < KNOWN.length; i++) {
                if (KNOWN[i].letters == letters) {
                    return KNOWN[i];
                }
            }
            return NAME;
        }
    }

    /** The bytes that were fed, their tokens, and the one of these that is being looked at. */
    private static final class Tape {
        private static final int LONGEST_NAME = 8;
        private static final int LONGEST_NUMBER = 9;

        private final byte[] bytes = new byte[MOST_BYTES];
        private final Token[] tokens = new Token[MOST_BYTES + 1];
        private final int[] places = new int[MOST_BYTES + 1];
        private final long[] values = new long[MOST_BYTES + 1];
        private int length;
        private int now;
        private Token token;
        private int place;
        private long value;
        private int fault;
        private int faultPlace;

        void append(long number, int n) {
            for (int i = n - 1; i >= 0 && length < MOST_BYTES; i--) {
                bytes[length] = (byte) (number >> 8 * i);
                length++;
            }
        }

        // Tokens behind one that is bad are never asked for, so the scan ends there.
        void scan() {
            int at = 0;
            Token latest = Token.NAME;
            for (int i = 0; i <= MOST_BYTES && latest != Token.END && latest != Token.BAD; i++) {
                at = behindBlanks(at);
                int behind = behindToken(at);
                values[i] = valueOf(at, behind);
                latest = kindOf(at, behind, values[i]);
                tokens[i] = latest;
                places[i] = at;
                at = behind;
            }
            now = NONE;
            next();
        }

        void next() {
            if (now + 1 >= 0 && now + 1 < tokens.length) {
                now++;
                token = tokens[now];
                place = places[now];
                value = values[now];
            }
        }

        boolean skip(Token wanted) {
            if (token != wanted) {
                return false;
            }
            next();
            return true;
        }

        void expect(Token wanted) {
            if (token != wanted) {
                refuse(MISPLACED);
            }
            next();
        }

        void refuse(int code) {
            fault = token == Token.BAD ? BAD_TEXT : code;
            faultPlace = place;
            throw new IllegalStateException("a fault in the text");
        }

        private int behindBlanks(int from) {
            int at = from;
            while (at < length && (bytes[at] == ' ' || bytes[at] == '\n')) {
                at++;
            }
            return at;
        }

        private int behindToken(int from) {
            if (from >= length) {
                return from;
            }
            int at = from + 1;
            if (isLetter(from)) {
                while (at < length && (isLetter(at) || isFigure(at))) {
                    at++;
                }
            } else if (isFigure(from)) {
                while (at < length && isFigure(at)) {
                    at++;
                }
            } else if ((bytes[from] == '<' || bytes[from] == '>') && at < length && bytes[at] == '=') {
                at++;
            }
            return at;
        }

        private long valueOf(int from, int to) {
            long result = 0;
            boolean figures = isFigure(from);
            for (int at = from; at < to && at < length; at++) {
                result = figures ? result * 10 + bytes[at] - '0' : result << 8 | bytes[at] & 255;
            }
            return result;
        }

        private Token kindOf(int from, int to, long packed) {
            if (from >= length) {
                return Token.END;
            }
            if (isFigure(from)) {
                return to - from > LONGEST_NUMBER ? Token.BAD : Token.NUMBER;
            }
            Token spelt = Token.spelt(packed);
            if (isLetter(from)) {
                return to - from > LONGEST_NAME ? Token.BAD : spelt;
            }
            return spelt == Token.NAME ? Token.BAD : spelt;
        }

        private boolean isLetter(int at) {
            return at >= 0 && at < length && bytes[at] >= 'a' && bytes[at] <= 'z';
        }

        private boolean isFigure(int at) {
            return at >= 0 && at < length && bytes[at] >= '0' && bytes[at] <= '9';
        }
    }

    /** A SUM or a TEST, held as instructions of which each takes from a stack what those before it left. */
    private static final class Formula {
        static final int NUMBER = 0;
        static final int NOTHING = 1;
        static final int COLUMN = 2;
        static final int NEW = 3;
        static final int OLD = 4;
        static final int NEGATE = 5;
        static final int NOT = 6;
        static final int IS_NULL = 7;
        static final int IS_SOME = 8;
        static final int ADD = 9;
        static final int SUBTRACT = 10;
        static final int MULTIPLY = 11;
        static final int DIVIDE = 12;
        static final int EQUAL = 13;
        static final int UNLIKE = 14;
        static final int LESS = 15;
        static final int AT_MOST = 16;
        static final int MORE = 17;
        static final int AT_LEAST = 18;
        static final int AND = 19;
        static final int OR = 20;

        static final long NO = 0;
        static final long YES = 1;
        static final long UNSURE = 2;
        // No VALUE is this one, so it can stand for a division that can't be done.
        static final long UNDONE = Long.MIN_VALUE + 1;

        private final int[] operations;
        private final int[] operands;
        private final boolean inCheck;
        private final long[] stack;

        Formula(int[] operations, int[] operands, boolean inCheck) {
            this.operations = operations;
            this.operands = operands;
            this.inCheck = inCheck;
            stack = new long[operations.length];
        }

        int nodes() {
            return operations.length;
        }

        /** The row alone begins at a place of cells; UNDONE if there is a division by 0 outside of a check. */
        long work(long[] cells, int start, long[] fresh, long[] old) {
            int height = 0;
            for (int i = 0; i < operations.length && i < operands.length; i++) {
                int operation = operations[i];
                if (operation <= OLD) {
                    if (height >= stack.length) {
                        return NULL;
                    }
                    stack[height] = leaf(operation, operands[i], cells, start, fresh, old);
                    height++;
                } else if (operation <= IS_SOME) {
                    if (height < 1) {
                        return NULL;
                    }
                    stack[height - 1] = ofOne(operation, stack[height - 1]);
                } else {
                    if (height < 2) {
                        return NULL;
                    }
                    height--;
                    stack[height - 1] = ofTwo(operation, stack[height - 1], stack[height]);
                    if (stack[height - 1] == UNDONE) {
                        return UNDONE;
                    }
                }
            }
            return height < 1 ? NULL : stack[0];
        }

        private long leaf(int operation, int operand, long[] cells, int start, long[] fresh, long[] old) {
            switch (operation) {
                case NUMBER:
                    return operand;
                case COLUMN:
                    return element(cells, start + operand);
                case NEW:
                    return element(fresh, operand);
                case OLD:
                    return element(old, operand);
                default:
                    return NULL;
            }
        }

        static long element(long[] cells, int at) {
            return cells == null || at < 0 || at >= cells.length ? NULL : cells[at];
        }

        private static long ofOne(int operation, long value) {
            switch (operation) {
                case NEGATE:
                    return value == NULL ? NULL : (int) -value;
                case NOT:
                    return value == UNSURE ? UNSURE : 1 - value;
                case IS_NULL:
                    return value == NULL ? YES : NO;
                default:
                    return value == NULL ? NO : YES;
            }
        }

        private long ofTwo(int operation, long left, long right) {
            if (operation == AND) {
                return left == NO || right == NO ? NO : Math.max(left, right);
            }
            if (operation == OR) {
                return left == YES || right == YES ? YES : Math.max(left, right);
            }
            if (operation >= EQUAL) {
                return left == NULL || right == NULL ? UNSURE : compared(operation, left, right) ? YES : NO;
            }
            return left == NULL || right == NULL ? NULL : reckoned(operation, left, right);
        }

        private static boolean compared(int operation, long left, long right) {
            switch (operation) {
                case EQUAL:
                    return left == right;
                case UNLIKE:
                    return left != right;
                case LESS:
                    return left < right;
                case AT_MOST:
                    return left <= right;
                case MORE:
                    return left > right;
                default:
                    return left >= right;
            }
        }

        private long reckoned(int operation, long left, long right) {
            switch (operation) {
                case ADD:
                    return (int) (left + right);
                case SUBTRACT:
                    return (int) (left - right);
                case MULTIPLY:
                    return (int) (left * right);
                default:
                    break;
            }
            if (right == 0) {
                return inCheck ? NULL : UNDONE;
            }
            return (int) (left / right);
        }
    }

    /** Reads SUMS and TESTS from the tape. */
    private static final class FormulaReader {
        private final Tape tape;
        private final Store store;
        private final int[] operations = new int[MOST_BYTES];
        private final int[] operands = new int[MOST_BYTES];
        private int used;
        private int open;
        // Below 0 where nodes are not kept, so that none is one too many.
        private int nodesLeft;
        private int rowTable;
        private int triggerTable;
        private int event;
        private boolean inCheck;

        FormulaReader(Tape tape, Store store) {
            this.tape = tape;
            this.store = store;
        }

        void startStatement(boolean isKept) {
            nodesLeft = isKept ? MOST_NODES - store.nodes() : NONE;
            rowTable = NONE;
            triggerTable = NONE;
            inCheck = false;
        }

        Formula wholeTest() {
            used = 0;
            open = 0;
            readTest();
            return built();
        }

        Formula wholeSum() {
            used = 0;
            open = 0;
            readSum();
            return built();
        }

        private Formula built() {
            int size = Math.max(0, Math.min(used, MOST_BYTES));
            return new Formula(Arrays.copyOf(operations, size), Arrays.copyOf(operands, size), inCheck);
        }

        private void readTest() {
            readBoth();
            for (int i = 0; i < MOST_BYTES && tape.token == Token.OR; i++) {
                spendNode();
                tape.next();
                readBoth();
                emit(Formula.OR, 0);
            }
        }

        private void readBoth() {
            readUnit();
            for (int i = 0; i < MOST_BYTES && tape.token == Token.AND; i++) {
                spendNode();
                tape.next();
                readUnit();
                emit(Formula.AND, 0);
            }
        }

        private void readUnit() {
            if (tape.token == Token.NOT) {
                goIn();
                spendNode();
                tape.next();
                readUnit();
                emit(Formula.NOT, 0);
                open--;
            } else if (tape.token == Token.OPEN_SQUARE) {
                goIn();
                tape.next();
                readTest();
                tape.expect(Token.CLOSE_SQUARE);
                open--;
            } else {
                readSum();
                int operation = comparisonMeant();
                spendNode();
                tape.next();
                if (operation == Formula.IS_NULL) {
                    readNullOrSome();
                } else {
                    readSum();
                    emit(operation, 0);
                }
            }
        }

        private void readNullOrSome() {
            boolean isNull = tape.skip(Token.NULL);
            if (!isNull) {
                tape.expect(Token.SOME);
            }
            emit(isNull ? Formula.IS_NULL : Formula.IS_SOME, 0);
        }

        private int comparisonMeant() {
            switch (tape.token) {
                case IS:
                    return Formula.IS_NULL;
                case EQUAL:
                    return Formula.EQUAL;
                case UNLIKE:
                    return Formula.UNLIKE;
                case LESS:
                    return Formula.LESS;
                case AT_MOST:
                    return Formula.AT_MOST;
                case MORE:
                    return Formula.MORE;
                case AT_LEAST:
                    return Formula.AT_LEAST;
                default:
                    tape.refuse(MISPLACED);
                    return NONE;
            }
        }

        private void readSum() {
            readTerm();
            for (int i = 0; i < MOST_BYTES && (tape.token == Token.PLUS || tape.token == Token.MINUS); i++) {
                int operation = tape.token == Token.PLUS ? Formula.ADD : Formula.SUBTRACT;
                spendNode();
                tape.next();
                readTerm();
                emit(operation, 0);
            }
        }

        private void readTerm() {
            readFactor();
            for (int i = 0; i < MOST_BYTES && (tape.token == Token.TIMES || tape.token == Token.OVER); i++) {
                int operation = tape.token == Token.TIMES ? Formula.MULTIPLY : Formula.DIVIDE;
                spendNode();
                tape.next();
                readFactor();
                emit(operation, 0);
            }
        }

        private void readFactor() {
            int operation;
            int operand = 0;
            switch (tape.token) {
                case NUMBER:
                    operation = Formula.NUMBER;
                    operand = (int) tape.value;
                    break;
                case NULL:
                    operation = Formula.NOTHING;
                    break;
                case NAME:
                    operation = Formula.COLUMN;
                    operand = columnOf(rowTable);
                    break;
                case NEW:
                case OLD:
                    operation = tape.token == Token.NEW ? Formula.NEW : Formula.OLD;
                    refuseWithoutRow(operation == Formula.NEW ? DELETE : INSERT);
                    tape.next();
                    tape.expect(Token.DOT);
                    operand = columnOf(triggerTable);
                    break;
                default:
                    readInner();
                    return;
            }
            spendNode();
            emit(operation, operand);
            tape.next();
        }

        private void readInner() {
            if (tape.token == Token.MINUS) {
                goIn();
                spendNode();
                tape.next();
                readFactor();
                emit(Formula.NEGATE, 0);
                open--;
            } else {
                if (tape.token == Token.OPEN) {
                    goIn();
                }
                tape.expect(Token.OPEN);
                readSum();
                tape.expect(Token.CLOSE);
                open--;
            }
        }

        private void refuseWithoutRow(int eventWithout) {
            if (triggerTable == NONE || event == eventWithout) {
                tape.refuse(OUT_OF_PLACE);
            }
        }

        private int columnOf(int table) {
            if (tape.token != Token.NAME) {
                tape.refuse(MISPLACED);
            }
            if (table == NONE) {
                // Such a name is no column's, so it makes no node: that 400 are there is no matter of it.
                tape.refuse(OUT_OF_PLACE);
            }
            int column = store.columnNamed(table, tape.value);
            if (column == NONE) {
                tape.refuse(NOT_THERE);
            }
            return column;
        }

        private void goIn() {
            if (open >= MOST_OPEN) {
                tape.refuse(TOO_MANY);
            }
            open++;
        }

        // Apart from emit, since a sign is told before what is behind it, but done after.
        private void spendNode() {
            if (nodesLeft == 0) {
                tape.refuse(TOO_MANY);
            }
            if (nodesLeft > 0) {
                nodesLeft--;
            }
        }

        private void emit(int operation, int operand) {
            if (used >= 0 && used < MOST_BYTES) {
                operations[used] = operation;
                operands[used] = operand;
                used++;
            }
        }
    }

    /** Reads a statement from the tape; a new table is built in the store, what else it says is kept here. */
    private static final class StatementReader {
        private final Tape tape;
        private final Store store;
        private final FormulaReader formulas;
        private Token verb;
        private Token noun;
        private int number;
        private long name;
        private int rules;
        private Act act;
        private Trigger trigger;
        private int newTable;

        StatementReader(Tape tape, Store store) {
            this.tape = tape;
            this.store = store;
            formulas = new FormulaReader(tape, store);
        }

        void undo() {
            if (newTable != NONE) {
                store.dropTable(newTable);
            }
        }

        void read() {
            tape.scan();
            verb = tape.token;
            number = NONE;
            newTable = NONE;
            formulas.startStatement(verb == Token.TABLE || verb == Token.TRIGGER);
            switch (verb) {
                case TABLE:
                    readTable();
                    break;
                case TRIGGER:
                    readTrigger();
                    break;
                case DROP:
                    readDrop();
                    break;
                case INSERT:
                case UPDATE:
                case DELETE:
                    act = readChange();
                    break;
                case BEGIN:
                case COMMIT:
                    tape.next();
                    break;
                case BACK:
                    readBack();
                    break;
                case MARK:
                    readMark();
                    break;
                case LATE:
                case NOW:
                    readWhich();
                    break;
                default:
                    tape.refuse(MISPLACED);
            }
            if (tape.token != Token.END) {
                tape.refuse(MISPLACED);
            }
        }

        private void readTable() {
            tape.next();
            long tableName = readNewName(Token.TABLE);
            newTable = store.addTable(tableName);
            formulas.rowTable = newTable;
            formulas.inCheck = true;
            tape.expect(Token.OPEN);
            readItem();
            for (int i = 0; i < MOST_BYTES && tape.skip(Token.COMMA); i++) {
                readItem();
            }
            if (tape.token == Token.CLOSE && !store.hasColumn(newTable, 0)) {
                tape.refuse(OUT_OF_PLACE);
            }
            tape.expect(Token.CLOSE);
        }

        private long readNewName(Token of) {
            if (tape.token != Token.NAME) {
                tape.refuse(MISPLACED);
            }
            long told = tape.value;
            boolean isTable = of == Token.TABLE;
            if ((isTable ? store.tableNamed(told) : store.triggerNamed(told)) != NONE) {
                tape.refuse(THERE_ALREADY);
            }
            if ((isTable ? store.freeTable() : store.freeTrigger()) == NONE) {
                tape.refuse(TOO_MANY);
            }
            tape.next();
            return told;
        }

        private void readItem() {
            switch (tape.token) {
                case NAME:
                    readNewColumn();
                    break;
                case PRIMARY:
                    readKey(Rule.PRIMARY);
                    break;
                case UNIQUE:
                    readKey(Rule.UNIQUE);
                    break;
                case CHECK:
                    Rule rule = addRule(Rule.CHECK);
                    rule.check = formulas.wholeTest();
                    rule.mayWait = tape.skip(Token.LATE);
                    break;
                case REFER:
                    readRefer();
                    break;
                default:
                    tape.refuse(MISPLACED);
            }
        }

        private void readNewColumn() {
            if (store.columnNamed(newTable, tape.value) != NONE) {
                tape.refuse(THERE_ALREADY);
            }
            int column = store.addColumn(newTable, tape.value);
            if (column == NONE) {
                tape.refuse(TOO_MANY);
            }
            tape.next();
            if (tape.skip(Token.DEFAULT)) {
                store.setDefault(newTable, column, readInt());
            }
            if (tape.token == Token.MUST) {
                Rule rule = addRule(Rule.MUST);
                rule.columns[0] = column;
                rule.size = 1;
            }
        }

        private long readInt() {
            boolean below = tape.skip(Token.MINUS);
            long told = tape.value;
            tape.expect(Token.NUMBER);
            return below ? -told : told;
        }

        private Rule addRule(int kind) {
            int free = store.freeRule();
            if (free == NONE) {
                tape.refuse(TOO_MANY);
            }
            tape.next();
            return store.addRule(free, kind, newTable);
        }

        private void readKey(int kind) {
            Rule rule = addRule(kind);
            tape.expect(Token.OPEN);
            rule.size = readNames(newTable, rule.columns);
            tape.expect(Token.CLOSE);
            rule.mayWait = tape.skip(Token.LATE);
        }

        private void readRefer() {
            Rule rule = addRule(Rule.REFER);
            tape.expect(Token.OPEN);
            rule.size = readNames(newTable, rule.columns);
            tape.expect(Token.CLOSE);
            tape.expect(Token.TO);
            rule.target = readTableName();
            tape.expect(Token.OPEN);
            int size = readNames(rule.target, rule.targets);
            if (tape.token == Token.CLOSE && (size != rule.size || !store.isKey(rule.target, rule.targets, size))) {
                tape.refuse(OUT_OF_PLACE);
            }
            tape.expect(Token.CLOSE);
            rule.onDelete = tape.skip(Token.DELETE) ? readAction() : Rule.NOTHING;
            rule.onUpdate = tape.skip(Token.UPDATE) ? readAction() : Rule.NOTHING;
            rule.mayWait = tape.skip(Token.LATE);
        }

        private int readAction() {
            int action = Rule.NOTHING;
            switch (tape.token) {
                case STOP:
                    action = Rule.STOP;
                    break;
                case CASCADE:
                    action = Rule.CASCADE;
                    break;
                case NULL:
                    action = Rule.SET_NULL;
                    break;
                case DEFAULT:
                    action = Rule.SET_DEFAULT;
                    break;
                default:
                    tape.refuse(MISPLACED);
            }
            tape.next();
            return action;
        }

        /** Up to the token behind the NAMES, so that the caller can look at what stands there. */
        private int readNames(int table, int[] into) {
            int size = 0;
            boolean more = true;
            for (int i = 0; i < into.length && more; i++) {
                into[i] = readColumnName(table, into, i);
                size++;
                more = tape.skip(Token.COMMA);
            }
            if (more) {
                // A table has no more columns than are here by now, so this refuses whatever comes.
                readColumnName(table, into, size);
            }
            return size;
        }

        private int readColumnName(int table, int[] before, int size) {
            if (tape.token != Token.NAME) {
                tape.refuse(MISPLACED);
            }
            int column = store.columnNamed(table, tape.value);
            if (column == NONE) {
                tape.refuse(NOT_THERE);
            }
            for (int i = 0; i < size && i < before.length; i++) {
                if (before[i] == column) {
                    tape.refuse(THERE_ALREADY);
                }
            }
            tape.next();
            return column;
        }

        private int readTableName() {
            if (tape.token != Token.NAME) {
                tape.refuse(MISPLACED);
            }
            int table = store.tableNamed(tape.value);
            if (table == NONE) {
                tape.refuse(NOT_THERE);
            }
            tape.next();
            return table;
        }

        private void readTrigger() {
            tape.next();
            long triggerName = readNewName(Token.TRIGGER);
            number = store.freeTrigger();
            int time = tape.token == Token.AFTER ? AFTER : BEFORE;
            if (!tape.skip(Token.AFTER)) {
                tape.expect(Token.BEFORE);
            }
            int event = readEvent();
            tape.expect(Token.ON);
            int table = readTableName();
            formulas.triggerTable = table;
            formulas.event = event;
            Formula when = tape.skip(Token.WHEN) ? formulas.wholeTest() : null;
            tape.expect(Token.DO);
            Act told;
            if (tape.token == Token.LET) {
                told = readLet(table, time, event);
            } else if (tape.token == Token.RAISE) {
                told = readRaise();
            } else {
                told = readChange();
            }
            trigger = new Trigger(triggerName, table, time, event, when, told);
        }

        private int readEvent() {
            int event = eventMeant();
            if (event == NONE) {
                tape.refuse(MISPLACED);
            }
            tape.next();
            return event;
        }

        private int eventMeant() {
            switch (tape.token) {
                case INSERT:
                    return INSERT;
                case UPDATE:
                    return UPDATE;
                case DELETE:
                    return DELETE;
                default:
                    return NONE;
            }
        }

        private Act readLet(int table, int time, int event) {
            if (time == AFTER || event == DELETE) {
                tape.refuse(OUT_OF_PLACE);
            }
            tape.next();
            Act let = new Act(LET, NONE);
            let.columns[0] = readColumnName(table, let.columns, 0);
            tape.expect(Token.EQUAL);
            let.sums[0] = formulas.wholeSum();
            return let;
        }

        private Act readRaise() {
            tape.next();
            Act raise = new Act(RAISE, NONE);
            raise.number = (int) tape.value;
            tape.expect(Token.NUMBER);
            return raise;
        }

        private Act readChange() {
            int kind = readEvent();
            Act change = new Act(kind, readTableName());
            if (kind == INSERT) {
                readParts(change);
                return change;
            }
            formulas.rowTable = change.table;
            if (kind == UPDATE) {
                readSettings(change);
            }
            if (tape.skip(Token.WHERE)) {
                change.where = formulas.wholeTest();
            }
            return change;
        }

        private void readParts(Act insert) {
            tape.expect(Token.OPEN);
            int parts = 0;
            boolean more = true;
            for (int i = 0; i < MOST_BYTES && more; i++) {
                Formula part = tape.skip(Token.DEFAULT) ? null : formulas.wholeSum();
                if (i < insert.sums.length) {
                    insert.sums[i] = part;
                    insert.size = i + 1;
                }
                parts++;
                more = tape.skip(Token.COMMA);
            }
            if (tape.token == Token.CLOSE && parts != store.widthOf(insert.table)) {
                tape.refuse(OUT_OF_PLACE);
            }
            tape.expect(Token.CLOSE);
        }

        private void readSettings(Act update) {
            tape.expect(Token.SET);
            boolean more = true;
            for (int i = 0; i < MOST_COLUMNS && more; i++) {
                update.columns[i] = readColumnName(update.table, update.columns, i);
                tape.expect(Token.EQUAL);
                update.sums[i] = formulas.wholeSum();
                update.size = i + 1;
                more = tape.skip(Token.COMMA);
            }
            if (more) {
                // All columns are set by now, so this refuses whatever comes.
                readColumnName(update.table, update.columns, update.size);
            }
        }

        private void readDrop() {
            tape.next();
            noun = tape.token;
            if (tape.skip(Token.TABLE)) {
                number = readTableName();
                return;
            }
            tape.expect(Token.TRIGGER);
            number = store.triggerNamed(tape.value);
            readNameThere();
        }

        private void readBack() {
            tape.next();
            if (tape.skip(Token.TO)) {
                number = store.markNamed(tape.value);
                readNameThere();
            }
        }

        private void readNameThere() {
            if (tape.token == Token.NAME && number == NONE) {
                tape.refuse(NOT_THERE);
            }
            tape.expect(Token.NAME);
        }

        private void readMark() {
            tape.next();
            name = tape.value;
            if (tape.token == Token.NAME && store.markNamed(name) == NONE && store.marksThere >= MOST_MARKS) {
                tape.refuse(TOO_MANY);
            }
            tape.expect(Token.NAME);
        }

        private void readWhich() {
            tape.next();
            rules = 0;
            if (tape.skip(Token.ALL)) {
                rules = ~0;
                return;
            }
            boolean more = true;
            for (int i = 0; i < MOST_BYTES && more; i++) {
                readRuleNumber();
                more = tape.skip(Token.COMMA);
            }
        }

        private void readRuleNumber() {
            int told = (int) tape.value;
            if (tape.token == Token.NUMBER) {
                Rule rule = store.ruleAt(told);
                if (rule == null || verb == Token.LATE && !rule.mayWait) {
                    tape.refuse(NO_RULE);
                }
                rules |= 1 << told;
            }
            tape.expect(Token.NUMBER);
        }
    }

    /** What the rows of a table, or one row and those of another table, must keep to. */
    private static final class Rule {
        static final int MUST = 0;
        static final int PRIMARY = 1;
        static final int UNIQUE = 2;
        static final int CHECK = 3;
        static final int REFER = 4;

        static final int NOTHING = 0;
        static final int STOP = 1;
        static final int CASCADE = 2;
        static final int SET_NULL = 3;
        static final int SET_DEFAULT = 4;

        private final int kind;
        private final int table;
        private final int[] columns = new int[MOST_COLUMNS];
        private final int[] targets = new int[MOST_COLUMNS];
        private int size;
        private int target = NONE;
        private boolean mayWait;
        private int onDelete;
        private int onUpdate;
        private Formula check;

        Rule(int kind, int table) {
            this.kind = kind;
            this.table = table;
        }

        int columnBits() {
            int bits = 0;
            for (int i = 0; i < size && i < columns.length; i++) {
                bits |= 1 << columns[i];
            }
            return bits;
        }

        int nodes() {
            return check == null ? 0 : check.nodes();
        }

        boolean isKeyOf(int[] wanted, int many) {
            if (kind != PRIMARY && kind != UNIQUE || size != many) {
                return false;
            }
            for (int i = 0; i < many && i < wanted.length && i < columns.length; i++) {
                if (columns[i] != wanted[i]) {
                    return false;
                }
            }
            return true;
        }

        int firstBreaker(Rows rows) {
            for (int k = 0; k < rows.sizeOf(table); k++) {
                boolean isBroken = hasNull(rows, k);
                if (kind == PRIMARY) {
                    isBroken = isBroken || isThere(rows, k, table, columns, k);
                } else if (kind == UNIQUE) {
                    isBroken = !isBroken && isThere(rows, k, table, columns, k);
                } else if (kind == REFER) {
                    isBroken = !isBroken && !isThere(rows, k, target, targets, rows.sizeOf(target));
                } else if (kind == CHECK && check != null) {
                    isBroken = check.work(rows.cells, Rows.placeOf(table, k), null, null) == Formula.NO;
                }
                if (isBroken) {
                    return rows.rowId(table, k);
                }
            }
            return NONE;
        }

        private boolean hasNull(Rows rows, int k) {
            for (int i = 0; i < size && i < columns.length; i++) {
                if (rows.cell(table, k, columns[i]) == NULL) {
                    return true;
                }
            }
            return false;
        }

        private boolean isThere(Rows rows, int k, int other, int[] otherColumns, int below) {
            for (int j = 0; j < below; j++) {
                boolean same = true;
                for (int i = 0; i < size && i < columns.length && i < otherColumns.length; i++) {
                    same &= rows.cell(table, k, columns[i]) == rows.cell(other, j, otherColumns[i]);
                }
                if (same) {
                    return true;
                }
            }
            return false;
        }

        /** Whether what is referred to was whole in old, and is gone (fresh is null) or another in fresh. */
        boolean isTouched(long[] old, long[] fresh) {
            boolean touched = fresh == null;
            for (int i = 0; i < size && i < targets.length; i++) {
                int column = targets[i];
                if (column < 0 || column >= old.length || old[column] == NULL) {
                    return false;
                }
                touched |= fresh != null && column < fresh.length && fresh[column] != old[column];
            }
            return touched;
        }

        boolean isReferring(Rows rows, int k, long[] old) {
            for (int i = 0; i < size && i < columns.length && i < targets.length; i++) {
                int column = targets[i];
                if (column < 0 || column >= old.length || rows.cell(table, k, columns[i]) != old[column]) {
                    return false;
                }
            }
            return true;
        }
    }

    /** What a trigger does, or a statement that is a CHANGE. */
    private static final class Act {
        private final int kind;
        private final int table;
        private final int[] columns = new int[MOST_COLUMNS];
        // Of an insert, null stands for the column's default.
        private final Formula[] sums = new Formula[MOST_COLUMNS];
        private int size;
        private Formula where;
        private int number;

        Act(int kind, int table) {
            this.kind = kind;
            this.table = table;
        }

        int nodes() {
            int nodes = where == null ? 0 : where.nodes();
            for (int i = 0; i < sums.length; i++) {
                nodes += sums[i] == null ? 0 : sums[i].nodes();
            }
            return nodes;
        }
    }

    /** An act that is done before or after a row of a table is inserted, updated or deleted. */
    private static final class Trigger {
        private final long name;
        private final int table;
        private final int time;
        private final int event;
        private final Formula when;
        private final Act act;

        Trigger(long name, int table, int time, int event, Formula when, Act act) {
            this.name = name;
            this.table = table;
            this.time = time;
            this.event = event;
            this.when = when;
            this.act = act;
        }

        int nodes() {
            return (when == null ? 0 : when.nodes()) + act.nodes();
        }

        boolean isFor(int of, int at, int what) {
            return table == of && time == at && event == what;
        }
    }

    /** The rows of all tables, of each by their ROWIDS. */
    private static final class Rows {
        private final long[] cells = new long[MOST_TABLES * MOST_ROWS * MOST_COLUMNS];
        private final int[] ids = new int[MOST_TABLES * MOST_ROWS];
        private final int[] sizes = new int[MOST_TABLES];
        private final int[] latest = new int[MOST_TABLES];

        static int placeOf(int table, int k) {
            return (table * MOST_ROWS + k) * MOST_COLUMNS;
        }

        int total() {
            int all = 0;
            for (int table = 0; table < MOST_TABLES; table++) {
                all += sizes[table];
            }
            return all;
        }

        int sizeOf(int table) {
            return table < 0 || table >= MOST_TABLES ? 0 : sizes[table];
        }

        boolean hasRow(int table, int k) {
            return table >= 0 && table < MOST_TABLES && k >= 0 && k < sizes[table] && k < MOST_ROWS;
        }

        int rowId(int table, int k) {
            return hasRow(table, k) ? ids[table * MOST_ROWS + k] : NONE;
        }

        long cell(int table, int k, int column) {
            if (!hasRow(table, k) || column < 0 || column >= MOST_COLUMNS) {
                return NULL;
            }
            return cells[(table * MOST_ROWS + k) * MOST_COLUMNS + column];
        }

        int rowWith(int table, int id) {
            for (int k = 0; k < sizeOf(table); k++) {
                if (rowId(table, k) == id) {
                    return k;
                }
            }
            return NONE;
        }

        boolean isFull(int table) {
            return sizeOf(table) >= MOST_ROWS;
        }

        void append(int table, long[] row) {
            if (table < 0 || table >= MOST_TABLES || isFull(table)) {
                return;
            }
            int k = sizes[table];
            sizes[table]++;
            latest[table]++;
            ids[table * MOST_ROWS + k] = latest[table];
            write(table, k, row);
        }

        void write(int table, int k, long[] row) {
            if (hasRow(table, k)) {
                System.arraycopy(row, 0, cells, placeOf(table, k), Math.min(MOST_COLUMNS, row.length));
            }
        }

        void load(int table, int k, long[] row) {
            if (hasRow(table, k)) {
                System.arraycopy(cells, placeOf(table, k), row, 0, Math.min(MOST_COLUMNS, row.length));
            }
        }

        void remove(int table, int k) {
            if (!hasRow(table, k)) {
                return;
            }
            int behind = sizes[table] - k - 1;
            int at = table * MOST_ROWS + k;
            System.arraycopy(ids, at + 1, ids, at, behind);
            System.arraycopy(cells, placeOf(table, k + 1), cells, placeOf(table, k), behind * MOST_COLUMNS);
            sizes[table]--;
        }

        void copyFrom(Rows other) {
            for (int table = 0; table < MOST_TABLES; table++) {
                int size = Math.min(other.sizeOf(table), MOST_ROWS);
                int cell = placeOf(table, 0);
                System.arraycopy(other.ids, table * MOST_ROWS, ids, table * MOST_ROWS, size);
                System.arraycopy(other.cells, cell, cells, cell, size * MOST_COLUMNS);
                sizes[table] = size;
                latest[table] = other.latest[table];
            }
        }

        void empty(int table) {
            if (table >= 0 && table < MOST_TABLES) {
                sizes[table] = 0;
                latest[table] = 0;
            }
        }
    }

    /** Tables, rules, triggers and rows, and the transaction that is under way. */
    private static final class Store {
        // A name of 0 is no name, so it stands for a place that is free.
        private final long[] tableNames = new long[MOST_TABLES];
        private final int[] widths = new int[MOST_TABLES];
        private final long[] columnNames = new long[MOST_TABLES * MOST_COLUMNS];
        private final long[] defaults = new long[MOST_TABLES * MOST_COLUMNS];
        private final Rule[] rules = new Rule[MOST_RULES];
        private final Trigger[] triggers = new Trigger[MOST_TRIGGERS];
        private final Rows rows = new Rows();
        private boolean underWay;
        private int waiting;
        // These copies are big, so they are made when they are wanted first, and used again.
        private Rows atBegin;
        private final Rows[] marks = new Rows[MOST_MARKS];
        private final long[] markNames = new long[MOST_MARKS];
        private int marksThere;

        void reset() {
            for (int table = 0; table < MOST_TABLES; table++) {
                dropTable(table);
            }
            endTransaction();
        }

        boolean hasTable(int table) {
            return table >= 0 && table < MOST_TABLES && tableNames[table] != 0;
        }

        boolean hasColumn(int table, int column) {
            return table >= 0 && table < MOST_TABLES && column >= 0 && column < widths[table] && column < MOST_COLUMNS;
        }

        int widthOf(int table) {
            return hasTable(table) ? widths[table] : 0;
        }

        Rule ruleAt(int rule) {
            return rule < 0 || rule >= MOST_RULES ? null : rules[rule];
        }

        Trigger triggerAt(int trigger) {
            return trigger < 0 || trigger >= MOST_TRIGGERS ? null : triggers[trigger];
        }

        int tableNamed(long name) {
            for (int table = 0; table < MOST_TABLES; table++) {
                if (hasTable(table) && tableNames[table] == name) {
                    return table;
                }
            }
            return NONE;
        }

        int columnNamed(int table, long name) {
            if (table < 0 || table >= MOST_TABLES) {
                return NONE;
            }
            for (int column = 0; column < widths[table] && column < MOST_COLUMNS; column++) {
                if (columnNames[table * MOST_COLUMNS + column] == name) {
                    return column;
                }
            }
            return NONE;
        }

        int triggerNamed(long name) {
            for (int t = 0; t < MOST_TRIGGERS; t++) {
                if (triggers[t] != null && triggers[t].name == name) {
                    return t;
                }
            }
            return NONE;
        }

        int markNamed(long name) {
            for (int m = 0; m < marksThere && m < MOST_MARKS; m++) {
                if (markNames[m] == name) {
                    return m;
                }
            }
            return NONE;
        }

        int freeTable() {
            for (int table = 0; table < MOST_TABLES; table++) {
                if (!hasTable(table)) {
                    return table;
                }
            }
            return NONE;
        }

        int freeRule() {
            for (int r = 0; r < MOST_RULES; r++) {
                if (rules[r] == null) {
                    return r;
                }
            }
            return NONE;
        }

        int freeTrigger() {
            for (int t = 0; t < MOST_TRIGGERS; t++) {
                if (triggers[t] == null) {
                    return t;
                }
            }
            return NONE;
        }

        int tablesThere() {
            int there = 0;
            for (int table = 0; table < MOST_TABLES; table++) {
                there += hasTable(table) ? 1 : 0;
            }
            return there;
        }

        int rulesThere() {
            int there = 0;
            for (int r = 0; r < MOST_RULES; r++) {
                there += rules[r] != null ? 1 : 0;
            }
            return there;
        }

        int triggersThere() {
            int there = 0;
            for (int t = 0; t < MOST_TRIGGERS; t++) {
                there += triggers[t] != null ? 1 : 0;
            }
            return there;
        }

        int nodes() {
            int nodes = 0;
            for (int r = 0; r < MOST_RULES; r++) {
                nodes += rules[r] != null ? rules[r].nodes() : 0;
            }
            for (int t = 0; t < MOST_TRIGGERS; t++) {
                nodes += triggers[t] != null ? triggers[t].nodes() : 0;
            }
            return nodes;
        }

        int addTable(long name) {
            int table = freeTable();
            if (table != NONE) {
                tableNames[table] = name;
            }
            return table;
        }

        int addColumn(int table, long name) {
            int column = widthOf(table);
            if (!hasTable(table) || column >= MOST_COLUMNS) {
                return NONE;
            }
            columnNames[table * MOST_COLUMNS + column] = name;
            defaults[table * MOST_COLUMNS + column] = NULL;
            widths[table]++;
            return column;
        }

        void setDefault(int table, int column, long value) {
            if (hasColumn(table, column)) {
                defaults[table * MOST_COLUMNS + column] = value;
            }
        }

        long defaultOf(int table, int column) {
            return hasColumn(table, column) ? defaults[table * MOST_COLUMNS + column] : NULL;
        }

        Rule addRule(int place, int kind, int table) {
            Rule added = new Rule(kind, table);
            if (place >= 0 && place < MOST_RULES) {
                rules[place] = added;
            }
            return added;
        }

        void addTrigger(int place, Trigger added) {
            if (place >= 0 && place < MOST_TRIGGERS) {
                triggers[place] = added;
            }
        }

        void dropTrigger(int trigger) {
            if (trigger >= 0 && trigger < MOST_TRIGGERS) {
                triggers[trigger] = null;
            }
        }

        boolean isKey(int table, int[] columns, int size) {
            for (int r = 0; r < MOST_RULES; r++) {
                if (rules[r] != null && rules[r].table == table && rules[r].isKeyOf(columns, size)) {
                    return true;
                }
            }
            return false;
        }

        boolean isFreeToGo(int table) {
            for (int r = 0; r < MOST_RULES; r++) {
                if (rules[r] != null && rules[r].table != table && rules[r].target == table) {
                    return false;
                }
            }
            for (int t = 0; t < MOST_TRIGGERS; t++) {
                if (triggers[t] != null && triggers[t].table != table && triggers[t].act.table == table) {
                    return false;
                }
            }
            return true;
        }

        void dropTable(int table) {
            if (!hasTable(table)) {
                return;
            }
            tableNames[table] = 0;
            widths[table] = 0;
            rows.empty(table);
            for (int r = 0; r < MOST_RULES; r++) {
                if (rules[r] != null && rules[r].table == table) {
                    rules[r] = null;
                }
            }
            for (int t = 0; t < MOST_TRIGGERS; t++) {
                if (triggers[t] != null && triggers[t].table == table) {
                    triggers[t] = null;
                }
            }
        }

        int rulesThatMayWait() {
            int those = 0;
            for (int r = 0; r < MOST_RULES; r++) {
                those |= rules[r] != null && rules[r].mayWait ? 1 << r : 0;
            }
            return those;
        }

        void begin() {
            underWay = true;
            waiting = rulesThatMayWait();
            atBegin = copyInto(atBegin);
        }

        void back() {
            if (atBegin != null) {
                rows.copyFrom(atBegin);
            }
            endTransaction();
        }

        int afterCommit(int end) {
            if (end == DONE) {
                endTransaction();
            } else {
                back();
            }
            return end;
        }

        int afterNow(int named, int end) {
            if (end == DONE) {
                waiting &= ~named;
            }
            return end;
        }

        void endTransaction() {
            underWay = false;
            waiting = 0;
            marksThere = 0;
        }

        void addMark(long name) {
            int place = markNamed(name);
            if (place == NONE) {
                place = marksThere;
                marksThere++;
            }
            if (place >= MOST_MARKS || marksThere > MOST_MARKS) {
                return;
            }
            Rows latest = marks[place];
            for (int m = place; m < marksThere - 1; m++) {
                marks[m] = marks[m + 1];
                markNames[m] = markNames[m + 1];
            }
            marks[marksThere - 1] = copyInto(latest);
            markNames[marksThere - 1] = name;
        }

        void backTo(int mark) {
            if (mark < 0 || mark >= marksThere || mark >= MOST_MARKS || marks[mark] == null) {
                return;
            }
            rows.copyFrom(marks[mark]);
            marksThere = mark + 1;
        }

        private Rows copyInto(Rows shelf) {
            Rows copy = shelf == null ? new Rows() : shelf;
            copy.copyFrom(rows);
            return copy;
        }
    }

    /** Does changes, with all that follows from them. */
    private static final class Engine {
        private final Store store;
        private final Rows rows;
        private final Rows before = new Rows();
        // Of the step at a depth; one level more than steps can have, for the one that is refused.
        private final long[][] olds = new long[MOST_DEPTH + 2][MOST_COLUMNS];
        private final long[][] freshes = new long[MOST_DEPTH + 2][MOST_COLUMNS];
        private final int[][] founds = new int[MOST_DEPTH + 2][MOST_ROWS];
        private int end;
        private int begun;
        private int deepest;
        private int brokenRule;
        private int brokenRow;
        private int raised;

        Engine(Store store) {
            this.store = store;
            rows = store.rows;
        }

        void startAnew() {
            begun = 0;
            deepest = 0;
        }

        int change(Act act) {
            before.copyFrom(rows);
            try {
                perform(act, 0);
            } catch (IllegalStateException ended) {
                rows.copyFrom(before);
                return end;
            }
            end = look(~store.waiting);
            if (end != DONE) {
                rows.copyFrom(before);
            }
            return end;
        }

        /** Looks at those rules whose bits are set. */
        int look(int which) {
            for (int r = 0; r < MOST_RULES; r++) {
                Rule rule = store.ruleAt(r);
                int breaker = rule == null || (which >> r & 1) == 0 ? NONE : rule.firstBreaker(rows);
                if (breaker != NONE) {
                    brokenRule = r;
                    brokenRow = breaker;
                    return BROKEN;
                }
            }
            return DONE;
        }

        private void stop(int code) {
            end = code;
            throw new IllegalStateException("the statement ends");
        }

        /** Does an act of the step at this depth; at depth 0 that of the statement. */
        private void perform(Act act, int depth) {
            if (act == null || depth < 0 || depth > MOST_DEPTH) {
                return;
            }
            switch (act.kind) {
                case INSERT:
                    for (int i = 0; i < act.size && i < MOST_COLUMNS; i++) {
                        freshes[depth + 1][i] = act.sums[i] == null
                                ? store.defaultOf(act.table, i) : worked(act.sums[i], 0, depth);
                    }
                    insertRow(act.table, depth + 1);
                    break;
                case UPDATE:
                case DELETE:
                    changeFound(act, depth);
                    break;
                case LET:
                    put(freshes[depth], act.columns[0], worked(act.sums[0], 0, depth));
                    break;
                default:
                    raised = act.number;
                    stop(RAISED);
            }
        }

        private void changeFound(Act act, int depth) {
            int many = 0;
            for (int k = 0; k < rows.sizeOf(act.table) && many < MOST_ROWS; k++) {
                if (isYes(act.where, Rows.placeOf(act.table, k), depth)) {
                    founds[depth][many] = rows.rowId(act.table, k);
                    many++;
                }
            }
            for (int i = 0; i < many; i++) {
                int id = founds[depth][i];
                int k = rows.rowWith(act.table, id);
                if (k != NONE) {
                    rows.load(act.table, k, olds[depth + 1]);
                    if (act.kind == DELETE) {
                        deleteRow(act.table, id, depth + 1);
                    } else {
                        rows.load(act.table, k, freshes[depth + 1]);
                        setColumns(act, k, depth);
                        updateRow(act.table, id, depth + 1);
                    }
                }
            }
        }

        private void setColumns(Act act, int k, int depth) {
            for (int i = 0; i < act.size && i < MOST_COLUMNS; i++) {
                put(freshes[depth + 1], act.columns[i], worked(act.sums[i], Rows.placeOf(act.table, k), depth));
            }
        }

        private long worked(Formula formula, int place, int depth) {
            if (formula == null) {
                return NULL;
            }
            long result = formula.work(rows.cells, place, freshes[depth], olds[depth]);
            if (result == Formula.UNDONE) {
                stop(BY_ZERO);
            }
            return result;
        }

        private boolean isYes(Formula test, int place, int depth) {
            return test == null || worked(test, place, depth) == Formula.YES;
        }

        private void beginStep(int depth) {
            if (begun >= MOST_STEPS || depth > MOST_DEPTH) {
                stop(TOO_MUCH);
            }
            begun++;
            deepest = Math.max(deepest, depth);
        }

        private void insertRow(int table, int depth) {
            beginStep(depth);
            fire(table, BEFORE, INSERT, depth);
            if (rows.isFull(table)) {
                stop(NO_ROOM);
            }
            rows.append(table, freshes[depth]);
            fire(table, AFTER, INSERT, depth);
        }

        private void updateRow(int table, int id, int depth) {
            beginStep(depth);
            fire(table, BEFORE, UPDATE, depth);
            int k = rows.rowWith(table, id);
            if (k == NONE) {
                return;
            }
            rows.write(table, k, freshes[depth]);
            follow(table, id, UPDATE, depth);
            fire(table, AFTER, UPDATE, depth);
        }

        private void deleteRow(int table, int id, int depth) {
            beginStep(depth);
            fire(table, BEFORE, DELETE, depth);
            int k = rows.rowWith(table, id);
            if (k == NONE) {
                return;
            }
            rows.remove(table, k);
            follow(table, id, DELETE, depth);
            fire(table, AFTER, DELETE, depth);
        }

        private void fire(int table, int time, int event, int depth) {
            for (int t = 0; t < MOST_TRIGGERS; t++) {
                Trigger trigger = store.triggerAt(t);
                if (trigger != null && trigger.isFor(table, time, event) && isYes(trigger.when, 0, depth)) {
                    perform(trigger.act, depth);
                }
            }
        }

        private void follow(int table, int id, int event, int depth) {
            for (int r = 0; r < MOST_RULES; r++) {
                Rule rule = store.ruleAt(r);
                if (rule != null && rule.target == table
                        && rule.isTouched(olds[depth], event == DELETE ? null : freshes[depth])) {
                    int action = event == DELETE ? rule.onDelete : rule.onUpdate;
                    followRule(r, rule, action, event, id, depth);
                }
            }
        }

        private void followRule(int r, Rule rule, int action, int event, int id, int depth) {
            int many = 0;
            for (int k = 0; k < rows.sizeOf(rule.table) && many < MOST_ROWS; k++) {
                if (action != Rule.NOTHING && rule.isReferring(rows, k, olds[depth])) {
                    founds[depth][many] = rows.rowId(rule.table, k);
                    many++;
                }
            }
            for (int i = 0; i < many; i++) {
                int referring = founds[depth][i];
                int k = rows.rowWith(rule.table, referring);
                if (k != NONE && rule.isReferring(rows, k, olds[depth])) {
                    if (action == Rule.STOP) {
                        brokenRule = r;
                        brokenRow = id;
                        stop(BROKEN);
                    }
                    rows.load(rule.table, k, olds[depth + 1]);
                    if (action == Rule.CASCADE && event == DELETE) {
                        deleteRow(rule.table, referring, depth + 1);
                    } else {
                        rows.load(rule.table, k, freshes[depth + 1]);
                        setReferring(rule, action, depth);
                        updateRow(rule.table, referring, depth + 1);
                    }
                }
            }
        }

        private void setReferring(Rule rule, int action, int depth) {
            for (int i = 0; i < rule.size && i < MOST_COLUMNS; i++) {
                long set = NULL;
                if (action == Rule.CASCADE) {
                    set = Formula.element(freshes[depth], rule.targets[i]);
                } else if (action == Rule.SET_DEFAULT) {
                    set = store.defaultOf(rule.table, rule.columns[i]);
                }
                put(freshes[depth + 1], rule.columns[i], set);
            }
        }

        private static void put(long[] row, int column, long value) {
            if (column >= 0 && column < row.length) {
                row[column] = value;
            }
        }
    }
}
