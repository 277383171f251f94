/**
 * Queries over small tables with missing values, worked out by a coordinator and several workers.
 * The promises that the comments name are those of the document.
 */
public final class QueryFleet {
    public static final int NONE = -1;
    public static final int FULL = -2;

    private static final int TABLES = 3;
    private static final int TABLE_ROWS = 12;
    private static final int TABLE_COLUMNS = 2;
    private static final int COLUMNS = 4;

    private static final int ALONE = 0;
    private static final int INNER = 1;
    private static final int OUTER = 2;

    private static final int STACK = 8;
    private static final int PARTS = 24;
    private static final int ADD = 0;
    private static final int SUBTRACT = 1;
    private static final int MULTIPLY = 2;
    private static final int DIVIDE = 3;
    private static final int EQUAL = 4;
    private static final int LESS = 5;
    private static final int AND = 6;
    private static final int OR = 7;
    private static final int NOT = 8;
    private static final int IS_NULL = 9;
    // Parts that are no operations have codes behind those of the operations.
    private static final int COLUMN = 10;
    private static final int NUMBER = 11;
    private static final int FIRST_TABLE_BITS = 3;
    private static final int SECOND_TABLE_BITS = 12;

    private static final long LEAST_LONG = 1L << 63;
    private static final long GREATEST_LONG = ~LEAST_LONG;

    private static final int CONDITIONS = 6;
    private static final int OUTPUTS = 3;
    private static final int PLAIN = 0;
    private static final int COUNT_ROWS = 1;
    private static final int COUNT_NUMBERS = 2;
    private static final int SUM = 3;
    private static final int LEAST = 4;
    private static final int GREATEST = 5;
    private static final int RESULT_COLUMNS = OUTPUTS + 1;
    private static final int JOINED_ROWS = TABLE_ROWS * TABLE_ROWS;
    // A column has at most 12 values; an outer join may add NULL.
    private static final int GROUPS = TABLE_ROWS + 1;

    private static final int WORKERS = 4;
    private static final int LEAST_MEMORY = 3;
    private static final int MOST_MEMORY = 8;
    private static final int FIRST_SCAN = 0;
    private static final int SECOND_SCAN = 1;
    private static final int JOIN = 2;
    private static final int GROUPING = 3;
    private static final int KINDS = GROUPING + 1;
    private static final int RUN = 0;
    private static final int DONE = 1;
    private static final int QUEUE = 12;
    private static final int MESSAGES = 60;
    // RUNs of tasks that become ready are sent even if 60 wait: joins once, groupings once.
    private static final int MESSAGE_ROOM = MESSAGES + 2 * WORKERS;
    private static final int PATIENCE = 3;

    private final Plan plan;
    private final Table[] tables;
    private final Query query;
    private final Result result;
    private final Job job;

    public QueryFleet() {
        plan = new Plan();
        tables = plan.tables;
        query = plan.query;
        result = new Result();
        job = new Job();
    }

    public int row(int table, int x, int y, int nulls) {
        if (job.on || !isIn(table, TABLES) || !isIn(nulls, 4)) {
            return NONE;
        }
        return tables[table].add(x, y, nulls);
    }

    public boolean from(int kind, int first, int second, int left, int right) {
        if (job.on || !isIn(kind, OUTER + 1) || !isIn(first, TABLES)) {
            return false;
        }
        if (kind == ALONE) {
            query.begin(kind, first, first, 0, 0);
            return true;
        }
        if (!isIn(second, TABLES) || !isIn(left, TABLE_COLUMNS) || !isIn(right, TABLE_COLUMNS)) {
            return false;
        }
        query.begin(kind, first, second, left, right);
        return true;
    }

    public boolean column(int c) {
        return canChangeQuery() && isIn(c, query.columns()) && query.push(COLUMN, c);
    }

    public boolean number(int v) {
        return canChangeQuery() && query.push(NUMBER, v);
    }

    public boolean operate(int op) {
        return canChangeQuery() && isIn(op, IS_NULL + 1) && query.apply(op);
    }

    public boolean where() {
        return canChangeQuery() && query.takeCondition();
    }

    public boolean output(int kind) {
        return canChangeQuery() && isIn(kind, GREATEST + 1) && query.takeOutput(kind);
    }

    public boolean group(int c) {
        if (!canChangeQuery() || !isIn(c, query.columns())) {
            return false;
        }
        query.groupColumn = c;
        return true;
    }

    public boolean order(int column, boolean down, int limit) {
        if (!canChangeQuery() || !isIn(column, RESULT_COLUMNS)) {
            return false;
        }
        query.orderColumn = column;
        query.down = down;
        query.limit = limit;
        return true;
    }

    public int start(int workers, int memory) {
        if (!canChangeQuery() || query.depth > 0 || !query.isWhole()) {
            return NONE;
        }
        if (workers < 1 || workers > WORKERS || memory < LEAST_MEMORY || memory > MOST_MEMORY) {
            return NONE;
        }
        // Tables and query stay as they are while a job is on, so all that
        // its tasks will find can be worked out now.
        plan.keepRows();
        plan.makeGroups();
        plan.fillResult(result);
        result.sort(query);
        result.countPasses(memory);
        job.clear(workers);
        for (int t = 0; t < KINDS * workers; t++) {
            int kind = t / workers;
            int part = t % workers;
            if (query.needs(kind)) {
                job.addTask(kind, part, plan.rowsOf(kind, part, workers));
            }
        }
        job.sendReady();
        return job.taskCount;
    }

    public int pass(int k, int how) {
        if (!job.on || !isIn(k, job.waiting.size)) {
            return NONE;
        }
        switch (how) {
            case 0:
                return job.deliver(k);
            case 1:
                job.waiting.removeAt(k);
                return 1;
            case 2:
                return job.repeat(k);
            default:
                return NONE;
        }
    }

    public int work(int worker) {
        if (!isWorker(worker)) {
            return NONE;
        }
        return job.workOff(job.queues[worker]);
    }

    public int crash(int worker) {
        if (!isWorker(worker)) {
            return NONE;
        }
        int forgotten = job.queues[worker].size;
        job.queues[worker].size = 0;
        return forgotten;
    }

    public int tick() {
        if (!job.on) {
            return NONE;
        }
        return job.sendAgain();
    }

    public int message(int k, int what) {
        if (!job.on) {
            return NONE;
        }
        if (k == -1) {
            return job.waiting.size;
        }
        if (!isIn(k, job.waiting.size)) {
            return NONE;
        }
        return job.tell(k, what);
    }

    public int task(int t, int what) {
        if (!isIn(t, job.taskCount)) {
            return NONE;
        }
        return job.tasks[t].tell(what);
    }

    public int ended(int what) {
        if (!hasResult()) {
            return NONE;
        }
        switch (what) {
            case 0:
                return result.counting;
            case 1:
                return result.columns;
            case 2:
                return result.passes;
            case 3:
                return job.ignored;
            default:
                return NONE;
        }
    }

    public long cell(int i, int c) {
        if (!hasCell(i, c) || result.isNull(i, c)) {
            return 0;
        }
        return result.value(i, c);
    }

    public boolean missing(int i, int c) {
        return hasCell(i, c) && result.isNull(i, c);
    }

    private static boolean isIn(int i, int size) {
        return i >= 0 && i < size;
    }

    private boolean canChangeQuery() {
        return !job.on && query.begun;
    }

    private boolean isWorker(int worker) {
        return job.on && isIn(worker, job.workers);
    }

    private boolean hasResult() {
        return !job.on && job.taskCount > 0;
    }

    private boolean hasCell(int i, int c) {
        return hasResult() && isIn(i, result.counting) && isIn(c, result.columns);
    }

    /** A table; its rows stay once they are there. */
    private static final class Table {
        private final int[] values = new int[TABLE_ROWS * TABLE_COLUMNS];
        private final boolean[] nulls = new boolean[TABLE_ROWS * TABLE_COLUMNS];
        private int size;

        int add(int x, int y, int nullBits) {
            if (size >= TABLE_ROWS) {
                return FULL;
            }
            int at = size * TABLE_COLUMNS;
            values[at] = x;
            nulls[at] = (nullBits & 1) != 0;
            values[at + 1] = y;
            nulls[at + 1] = (nullBits & 2) != 0;
            size++;
            return size;
        }

        int value(int r, int c) {
            return values[r * TABLE_COLUMNS + c];
        }

        boolean isNull(int r, int c) {
            return nulls[r * TABLE_COLUMNS + c];
        }
    }

    /** An expression: its parts, each operation behind what it is of. */
    private static final class Expression {
        private final int[] codes = new int[PARTS];
        private final int[] operands = new int[PARTS];
        private int length;
        private boolean truth;
        // A bit for each column that is named.
        private int named;

        void clear() {
            length = 0;
            truth = false;
            named = 0;
        }

        void addPart(int code, int operand) {
            if (length >= PARTS) {
                return;
            }
            codes[length] = code;
            operands[length] = operand;
            length++;
            if (code == COLUMN) {
                named |= 1 << operand;
            }
        }

        void addAll(Expression other) {
            for (int i = 0; i < other.length; i++) {
                addPart(other.codes[i], other.operands[i]);
            }
        }

        boolean namesFirst() {
            return (named & FIRST_TABLE_BITS) != 0;
        }

        boolean namesSecond() {
            return (named & SECOND_TABLE_BITS) != 0;
        }
    }

    /** The query, and the stack on which its expressions are made. */
    private static final class Query {
        private boolean begun;
        private int kind;
        private int first;
        private int second;
        private int left;
        private int right;
        private final Expression[] stack = makeExpressions(STACK);
        private int depth;
        private final Expression[] conditions = makeExpressions(CONDITIONS);
        private int conditionCount;
        private final Expression[] outputs = makeExpressions(OUTPUTS);
        private final int[] outputKinds = new int[OUTPUTS];
        private int outputCount;
        private int groupColumn = NONE;
        private int orderColumn;
        private boolean down;
        private int limit = NONE;

        private static Expression[] makeExpressions(int size) {
            Expression[] made = new Expression[size];
            for (int i = 0; i < size; i++) {
                made[i] = new Expression();
            }
            return made;
        }

        void begin(int newKind, int newFirst, int newSecond, int newLeft, int newRight) {
            begun = true;
            kind = newKind;
            first = newFirst;
            second = newSecond;
            left = newLeft;
            right = newRight;
            depth = 0;
            conditionCount = 0;
            outputCount = 0;
            groupColumn = NONE;
            orderColumn = 0;
            down = false;
            limit = NONE;
        }

        boolean isJoin() {
            return kind != ALONE;
        }

        int columns() {
            return isJoin() ? COLUMNS : TABLE_COLUMNS;
        }

        boolean isGrouped() {
            return groupColumn != NONE;
        }

        /** Whether it has aggregates; a group alone counts as such a query, too. */
        boolean isAggregate() {
            return isGrouped() || (outputCount > 0 && outputKinds[0] != PLAIN);
        }

        boolean isWhole() {
            if (outputCount == 0) {
                return isGrouped();
            }
            boolean aggregate = isAggregate();
            for (int i = 0; i < outputCount; i++) {
                if ((outputKinds[i] != PLAIN) != aggregate) {
                    return false;
                }
            }
            return true;
        }

        int resultColumns() {
            return isGrouped() ? outputCount + 1 : outputCount;
        }

        boolean needs(int taskKind) {
            if (taskKind == SECOND_SCAN || taskKind == JOIN) {
                return isJoin();
            }
            return taskKind == FIRST_SCAN || isAggregate();
        }

        /** Whether rows that fail the condition are dropped by scans of that kind. */
        boolean isPushed(Expression condition, int scanKind) {
            if (scanKind == FIRST_SCAN) {
                return !condition.namesSecond();
            }
            return kind == INNER && condition.namesSecond() && !condition.namesFirst();
        }

        boolean push(int code, int operand) {
            if (depth >= STACK) {
                return false;
            }
            stack[depth].clear();
            stack[depth].addPart(code, operand);
            depth++;
            return true;
        }

        boolean apply(int op) {
            int taken = op == NOT || op == IS_NULL ? 1 : 2;
            boolean ofTruths = op == AND || op == OR || op == NOT;
            if (depth < taken) {
                return false;
            }
            int length = 1;
            for (int i = depth - taken; i < depth; i++) {
                if (stack[i].truth != ofTruths) {
                    return false;
                }
                length += stack[i].length;
            }
            if (length > PARTS) {
                return false;
            }
            Expression made = stack[depth - taken];
            if (taken == 2) {
                made.addAll(stack[depth - 1]);
            }
            made.addPart(op, 0);
            made.truth = op >= EQUAL;
            depth = depth - taken + 1;
            return true;
        }

        boolean takeCondition() {
            if (depth != 1 || !stack[0].truth || conditionCount >= CONDITIONS) {
                return false;
            }
            moveOffStack(conditions, conditionCount);
            conditionCount++;
            return true;
        }

        boolean takeOutput(int outputKind) {
            if (outputCount >= OUTPUTS) {
                return false;
            }
            if (outputKind == COUNT_ROWS) {
                if (depth != 0) {
                    return false;
                }
                outputs[outputCount].clear();
            } else {
                if (depth != 1 || stack[0].truth) {
                    return false;
                }
                moveOffStack(outputs, outputCount);
            }
            outputKinds[outputCount] = outputKind;
            outputCount++;
            return true;
        }

        // The two change places, so that no expression has to be made anew.
        private void moveOffStack(Expression[] to, int at) {
            Expression free = to[at];
            to[at] = stack[0];
            stack[0] = free;
            depth = 0;
        }
    }

    /** Works out expressions for the row that is loaded. A truth is 1 or 0; UNKNOWN is held as NULL. */
    private static final class Machine {
        private final long[] cells = new long[COLUMNS];
        private final boolean[] cellNulls = new boolean[COLUMNS];
        private final long[] values = new long[STACK];
        private final boolean[] nulls = new boolean[STACK];

        /** Loads a row of a table from that column on; NULLs, if the row is NONE. */
        void load(int firstColumn, Table table, int r) {
            for (int c = 0; c < TABLE_COLUMNS; c++) {
                boolean none = r == NONE || table.isNull(r, c);
                cellNulls[firstColumn + c] = none;
                cells[firstColumn + c] = none ? 0 : table.value(r, c);
            }
        }

        /** What came of it is found by value, isNull and isTrue then. */
        void evaluate(Expression e) {
            set(0, 0, true);
            int depth = 0;
            for (int i = 0; i < e.length; i++) {
                int code = e.codes[i];
                int operand = e.operands[i];
                if (code == COLUMN && depth < STACK) {
                    set(depth, cells[operand], cellNulls[operand]);
                    depth++;
                } else if (code == NUMBER && depth < STACK) {
                    set(depth, operand, false);
                    depth++;
                } else if (code == NOT && depth >= 1) {
                    values[depth - 1] = 1 - values[depth - 1];
                } else if (code == IS_NULL && depth >= 1) {
                    set(depth - 1, nulls[depth - 1] ? 1 : 0, false);
                } else if (depth >= 2) {
                    depth--;
                    combine(code, depth - 1, depth);
                }
            }
        }

        long value() {
            return values[0];
        }

        boolean isNull() {
            return nulls[0];
        }

        boolean isTrue() {
            return !nulls[0] && values[0] == 1;
        }

        private void set(int at, long value, boolean none) {
            values[at] = value;
            nulls[at] = none;
        }

        private void combine(int op, int p, int q) {
            if (op == AND || op == OR) {
                decide(p, q, op == OR ? 1 : 0);
            } else if (nulls[p] || nulls[q]) {
                nulls[p] = true;
            } else if (op == EQUAL || op == LESS) {
                boolean holds = op == EQUAL ? values[p] == values[q] : values[p] < values[q];
                values[p] = holds ? 1 : 0;
            } else {
                nulls[p] = !isLong(op, values[p], values[q]);
                values[p] = nulls[p] ? 0 : calculate(op, values[p], values[q]);
            }
        }

        // AND and OR differ only in which truth decides whatever the other one is.
        private void decide(int p, int q, long deciding) {
            boolean decided = (!nulls[p] && values[p] == deciding) || (!nulls[q] && values[q] == deciding);
            if (decided) {
                set(p, deciding, false);
            } else if (nulls[p] || nulls[q]) {
                set(p, 0, true);
            } else {
                set(p, 1 - deciding, false);
            }
        }

        /** Whether the operation of two longs is one, too. */
        private static boolean isLong(int op, long p, long q) {
            switch (op) {
                case ADD:
                    return ((p ^ (p + q)) & (q ^ (p + q))) >= 0;
                case SUBTRACT:
                    return ((p ^ q) & (p ^ (p - q))) >= 0;
                case MULTIPLY:
                    if (q == 0 || q == -1) {
                        return q == 0 || p != LEAST_LONG;
                    }
                    return p * q / q == p;
                case DIVIDE:
                    return q != 0 && (q != -1 || p != LEAST_LONG);
                default:
                    return false;
            }
        }

        private static long calculate(int op, long p, long q) {
            switch (op) {
                case ADD:
                    return p + q;
                case SUBTRACT:
                    return p - q;
                case MULTIPLY:
                    return p * q;
                default:
                    return q == 0 ? 0 : p / q;
            }
        }
    }

    /** All aggregates of one column of numbers at once. */
    private static final class Aggregate {
        private long rows;
        private long numbers;
        // The sum is high * 2^32 + low: in two halves it can't leave the longs.
        private long high;
        private long low;
        private long least;
        private long greatest;

        void clear() {
            rows = 0;
            numbers = 0;
            high = 0;
            low = 0;
            least = GREATEST_LONG;
            greatest = LEAST_LONG;
        }

        void add(long value, boolean none) {
            rows++;
            if (none) {
                return;
            }
            numbers++;
            high += value >> 32;
            low += value & 0xFFFFFFFFL;
            least = Math.min(least, value);
            greatest = Math.max(greatest, value);
        }

        boolean isNull(int kind) {
            if (kind == COUNT_ROWS || kind == COUNT_NUMBERS) {
                return false;
            }
            return numbers == 0 || (kind == SUM && !hasSum());
        }

        long value(int kind) {
            switch (kind) {
                case COUNT_ROWS:
                    return rows;
                case COUNT_NUMBERS:
                    return numbers;
                case SUM:
                    return (high << 32) + low;
                case LEAST:
                    return least;
                case GREATEST:
                    return greatest;
                default:
                    return 0;
            }
        }

        private boolean hasSum() {
            long carried = high + (low >> 32);
            return carried == (int) carried;
        }
    }

    /** What the query over the tables means: its kept rows, its groups, and the rows of each task. */
    private static final class Plan {
        private final Table[] tables = new Table[TABLES];
        private final Query query = new Query();
        private final Machine machine = new Machine();
        private final Aggregate aggregate = new Aggregate();
        // A kept row is a row of the first table and one of the second, or NONE.
        private final int[] firsts = new int[JOINED_ROWS];
        private final int[] seconds = new int[JOINED_ROWS];
        private int kept;
        private final int[] groupOf = new int[JOINED_ROWS];
        private final long[] groupValues = new long[GROUPS];
        private final boolean[] groupNulls = new boolean[GROUPS];
        private int groups;

        Plan() {
            for (int i = 0; i < TABLES; i++) {
                tables[i] = new Table();
            }
        }

        void keepRows() {
            Table first = tables[query.first];
            Table second = tables[query.second];
            int pairs = query.isJoin() ? second.size : 0;
            kept = 0;
            for (int f = 0; f < first.size; f++) {
                boolean paired = false;
                for (int s = 0; s < pairs; s++) {
                    if (arePair(first, f, second, s)) {
                        paired = true;
                        keepIfAllTrue(f, s);
                    }
                }
                if (!paired && query.kind != INNER) {
                    keepIfAllTrue(f, NONE);
                }
            }
        }

        private boolean arePair(Table first, int f, Table second, int s) {
            if (first.isNull(f, query.left) || second.isNull(s, query.right)) {
                return false;
            }
            return first.value(f, query.left) == second.value(s, query.right);
        }

        private void keepIfAllTrue(int f, int s) {
            loadJoined(f, s);
            for (int i = 0; i < query.conditionCount; i++) {
                machine.evaluate(query.conditions[i]);
                if (!machine.isTrue()) {
                    return;
                }
            }
            if (kept < JOINED_ROWS) {
                firsts[kept] = f;
                seconds[kept] = s;
                kept++;
            }
        }

        private void loadJoined(int f, int s) {
            machine.load(0, tables[query.first], f);
            machine.load(TABLE_COLUMNS, tables[query.second], s);
        }

        void makeGroups() {
            // Without a group column all kept rows, even none, are one group.
            groups = query.isGrouped() ? 0 : 1;
            for (int k = 0; k < kept; k++) {
                groupOf[k] = query.isGrouped() ? findGroup(k) : 0;
            }
        }

        private int findGroup(int k) {
            loadJoined(firsts[k], seconds[k]);
            long value = machine.cells[query.groupColumn];
            boolean none = machine.cellNulls[query.groupColumn];
            for (int g = 0; g < groups; g++) {
                if (groupNulls[g] == none && groupValues[g] == value) {
                    return g;
                }
            }
            if (groups < GROUPS) {
                groupValues[groups] = value;
                groupNulls[groups] = none;
                groups++;
            }
            return groups - 1;
        }

        void fillResult(Result result) {
            result.columns = query.resultColumns();
            if (query.isAggregate()) {
                result.rows = groups;
                for (int g = 0; g < groups; g++) {
                    fillGroup(result, g);
                }
            } else {
                result.rows = kept;
                for (int k = 0; k < kept; k++) {
                    fillPlain(result, k);
                }
            }
        }

        private void fillPlain(Result result, int k) {
            loadJoined(firsts[k], seconds[k]);
            for (int o = 0; o < query.outputCount; o++) {
                machine.evaluate(query.outputs[o]);
                result.set(k, o, machine.value(), machine.isNull());
            }
        }

        private void fillGroup(Result result, int g) {
            int shift = 0;
            if (query.isGrouped()) {
                result.set(g, 0, groupValues[g], groupNulls[g]);
                shift = 1;
            }
            for (int o = 0; o < query.outputCount; o++) {
                addUp(query.outputs[o], g);
                int kind = query.outputKinds[o];
                result.set(g, o + shift, aggregate.value(kind), aggregate.isNull(kind));
            }
        }

        private void addUp(Expression e, int g) {
            aggregate.clear();
            for (int k = 0; k < kept; k++) {
                if (groupOf[k] == g) {
                    loadJoined(firsts[k], seconds[k]);
                    machine.evaluate(e);
                    aggregate.add(machine.value(), machine.isNull());
                }
            }
        }

        int rowsOf(int taskKind, int part, int workers) {
            switch (taskKind) {
                case FIRST_SCAN:
                    return scannedRows(taskKind, query.first, part, workers);
                case SECOND_SCAN:
                    return scannedRows(taskKind, query.second, part, workers);
                case JOIN:
                    return joinedRows(part, workers);
                case GROUPING:
                    return groupsOfPart(part, workers);
                default:
                    return 0;
            }
        }

        private int scannedRows(int scanKind, int table, int part, int workers) {
            int rows = 0;
            for (int r = 0; r < tables[table].size; r++) {
                if (partOf(r, false, workers) == part) {
                    machine.load(scanKind == FIRST_SCAN ? 0 : TABLE_COLUMNS, tables[table], r);
                    if (passesPushed(scanKind)) {
                        rows++;
                    }
                }
            }
            return rows;
        }

        private boolean passesPushed(int scanKind) {
            for (int i = 0; i < query.conditionCount; i++) {
                if (query.isPushed(query.conditions[i], scanKind)) {
                    machine.evaluate(query.conditions[i]);
                    if (!machine.isTrue()) {
                        return false;
                    }
                }
            }
            return true;
        }

        private int joinedRows(int part, int workers) {
            Table first = tables[query.first];
            int rows = 0;
            for (int k = 0; k < kept; k++) {
                int f = firsts[k];
                if (partOf(first.value(f, query.left), first.isNull(f, query.left), workers) == part) {
                    rows++;
                }
            }
            return rows;
        }

        private int groupsOfPart(int part, int workers) {
            if (!query.isGrouped()) {
                return part == 0 ? 1 : 0;
            }
            int rows = 0;
            for (int g = 0; g < groups; g++) {
                if (partOf(groupValues[g], groupNulls[g], workers) == part) {
                    rows++;
                }
            }
            return rows;
        }

        private static int partOf(long value, boolean none, int workers) {
            if (none || workers < 1) {
                return 0;
            }
            return (int) Math.floorMod(value, (long) workers);
        }
    }

    /** The result rows of the latest job, and their order. */
    private static final class Result {
        private final long[] values = new long[JOINED_ROWS * RESULT_COLUMNS];
        private final boolean[] nulls = new boolean[JOINED_ROWS * RESULT_COLUMNS];
        private final int[] places = new int[JOINED_ROWS];
        private int rows;
        private int columns;
        private int counting;
        private int passes;

        void set(int r, int c, long value, boolean none) {
            values[r * RESULT_COLUMNS + c] = value;
            nulls[r * RESULT_COLUMNS + c] = none;
        }

        /** Of the row that comes i-th in the order. */
        long value(int i, int c) {
            return values[places[i] * RESULT_COLUMNS + c];
        }

        boolean isNull(int i, int c) {
            return nulls[places[i] * RESULT_COLUMNS + c];
        }

        void sort(Query query) {
            int chosen = query.orderColumn < columns ? query.orderColumn : 0;
            for (int r = 0; r < rows; r++) {
                int at = r;
                while (at > 0 && compare(r, places[at - 1], chosen, query.down) < 0) {
                    places[at] = places[at - 1];
                    at--;
                }
                places[at] = r;
            }
            counting = query.limit < 0 ? rows : Math.min(rows, query.limit);
        }

        private int compare(int a, int b, int chosen, boolean down) {
            int order = compareAt(a, b, chosen);
            if (order != 0) {
                return down ? -order : order;
            }
            for (int c = 0; c < columns && order == 0; c++) {
                order = compareAt(a, b, c);
            }
            return order;
        }

        private int compareAt(int a, int b, int c) {
            int atA = a * RESULT_COLUMNS + c;
            int atB = b * RESULT_COLUMNS + c;
            if (nulls[atA] || nulls[atB]) {
                return (nulls[atA] ? 0 : 1) - (nulls[atB] ? 0 : 1);
            }
            return Long.compare(values[atA], values[atB]);
        }

        void countPasses(int memory) {
            passes = 0;
            if (rows == 0 || memory < LEAST_MEMORY) {
                return;
            }
            int runs = (rows + memory - 1) / memory;
            passes = 1;
            // There are never more passes than rows; that ends the loop for the reader.
            while (runs > 1 && passes < rows) {
                runs = (runs + memory - 2) / (memory - 1);
                passes++;
            }
        }
    }

    /** RUNs and DONEs in the order in which they came. */
    private static final class Line {
        private final int[] kinds;
        private final int[] tasks;
        private final int[] attempts;
        private int size;

        Line(int room) {
            kinds = new int[room];
            tasks = new int[room];
            attempts = new int[room];
        }

        boolean add(int kind, int task, int attempt) {
            if (size >= kinds.length) {
                return false;
            }
            kinds[size] = kind;
            tasks[size] = task;
            attempts[size] = attempt;
            size++;
            return true;
        }

        void removeAt(int k) {
            for (int i = k + 1; i < size; i++) {
                kinds[i - 1] = kinds[i];
                tasks[i - 1] = tasks[i];
                attempts[i - 1] = attempts[i];
            }
            size--;
        }
    }

    /** A task of the latest job. */
    private static final class Task {
        private int kind;
        private int part;
        private int rows;
        private int attempts;
        private int sentAt;
        private boolean done;

        void clear(int newKind, int newPart, int newRows) {
            kind = newKind;
            part = newPart;
            rows = newRows;
            attempts = 0;
            sentAt = 0;
            done = false;
        }

        int tell(int what) {
            switch (what) {
                case 0:
                    return kind;
                case 1:
                    return part;
                case 2:
                    return attempts;
                case 3:
                    return done ? 1 : 0;
                case 4:
                    return done ? rows : NONE;
                default:
                    return NONE;
            }
        }
    }

    /** The job that is on or the latest one: the coordinator, the workers' queues and the messages. */
    private static final class Job {
        private boolean on;
        private int workers;
        private final Task[] tasks = new Task[KINDS * WORKERS];
        private int taskCount;
        private int undone;
        private int ignored;
        private int time;
        private final Line waiting = new Line(MESSAGE_ROOM);
        private final Line[] queues = new Line[WORKERS];

        Job() {
            for (int t = 0; t < tasks.length; t++) {
                tasks[t] = new Task();
            }
            for (int w = 0; w < WORKERS; w++) {
                queues[w] = new Line(QUEUE);
            }
        }

        void clear(int newWorkers) {
            on = true;
            workers = newWorkers;
            taskCount = 0;
            undone = 0;
            ignored = 0;
            forgetMessages();
        }

        private void forgetMessages() {
            waiting.size = 0;
            for (int w = 0; w < WORKERS; w++) {
                queues[w].size = 0;
            }
        }

        void addTask(int kind, int part, int rows) {
            if (taskCount < tasks.length) {
                tasks[taskCount].clear(kind, part, rows);
                taskCount++;
                undone++;
            }
        }

        void sendReady() {
            for (int t = 0; t < taskCount; t++) {
                if (tasks[t].attempts == 0 && isReady(tasks[t].kind)) {
                    sendRun(t);
                }
            }
        }

        // A join and a grouping both need all tasks of kinds with smaller numbers.
        private boolean isReady(int kind) {
            if (kind == FIRST_SCAN || kind == SECOND_SCAN) {
                return true;
            }
            for (int t = 0; t < taskCount; t++) {
                if (tasks[t].kind < kind && !tasks[t].done) {
                    return false;
                }
            }
            return true;
        }

        private void sendRun(int t) {
            waiting.add(RUN, t, tasks[t].attempts);
            tasks[t].attempts++;
            tasks[t].sentAt = time;
        }

        private int workerOf(int t, int attempt) {
            return workers < 1 ? 0 : Math.floorMod(tasks[t].part + attempt, workers);
        }

        int deliver(int k) {
            int kind = waiting.kinds[k];
            int t = waiting.tasks[k];
            int attempt = waiting.attempts[k];
            waiting.removeAt(k);
            if (kind == RUN) {
                return queues[workerOf(t, attempt)].add(RUN, t, attempt) ? 1 : 0;
            }
            if (tasks[t].done) {
                ignored++;
                return 0;
            }
            finish(t);
            return 1;
        }

        private void finish(int t) {
            tasks[t].done = true;
            undone--;
            if (undone == 0) {
                on = false;
                forgetMessages();
            } else {
                sendReady();
            }
        }

        int repeat(int k) {
            if (waiting.size >= MESSAGES) {
                return FULL;
            }
            waiting.add(waiting.kinds[k], waiting.tasks[k], waiting.attempts[k]);
            return 1;
        }

        int workOff(Line queue) {
            if (queue.size == 0) {
                return NONE;
            }
            if (waiting.size >= MESSAGES) {
                return FULL;
            }
            int t = queue.tasks[0];
            waiting.add(DONE, t, queue.attempts[0]);
            queue.removeAt(0);
            return t;
        }

        int sendAgain() {
            time++;
            int sent = 0;
            for (int t = 0; t < taskCount; t++) {
                Task late = tasks[t];
                boolean due = late.attempts > 0 && !late.done && time - late.sentAt >= PATIENCE;
                if (due && waiting.size < MESSAGES) {
                    sendRun(t);
                    sent++;
                }
            }
            return sent;
        }

        int tell(int k, int what) {
            int t = waiting.tasks[k];
            switch (what) {
                case 0:
                    return waiting.kinds[k];
                case 1:
                    return t;
                case 2:
                    return waiting.attempts[k];
                case 3:
                    return waiting.kinds[k] == RUN ? workerOf(t, waiting.attempts[k]) : tasks[t].rows;
                default:
                    return NONE;
            }
        }
    }
}
