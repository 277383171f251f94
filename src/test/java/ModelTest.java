/** Long mixed runs of calls, all promises at once: every answer is that of the model. */
public final class ModelTest {
    private static final int RUNS = 6000;
    private static final int CALLS = 512;
    private static final int[] EDGES = {
        Integer.MIN_VALUE, Integer.MAX_VALUE, Integer.MIN_VALUE + 1, 1 << 30, -(1 << 30), 46341, -5, -4, -3, -2, -1, 0
    };

    private static int jobsEnded = 0;
    private static int fulls = 0;
    private static int rowsSeen = 0;

    private final long run;
    private final QueryFleet x = new QueryFleet();
    private final Model model = new Model();
    private long seed;
    private int calls = 0;
    private boolean failed = false;
    private final boolean floods;
    private final boolean big;
    private final int wild;

    private ModelTest(long run) {
        this.run = run;
        seed = run * 0x9E3779B97F4A7C15L + 1;
        floods = below(4) == 0;
        big = below(4) == 0;
        wild = below(3) == 0 ? 6 : 40;
    }

    public static void main(String[] args) {
        for (long run = 0; run < RUNS; run++) {
            new ModelTest(run).go();
        }
        // So that nobody takes runs that reach nothing for a proof.
        Check.due("many jobs ended: " + jobsEnded, jobsEnded > RUNS, true);
        Check.due("many calls found no room: " + fulls, fulls > RUNS / 4, true);
        Check.due("many rows came: " + rowsSeen, rowsSeen > RUNS * 4, true);
        Check.end();
    }

    // A generator of its own keeps each run the same for ever.
    private int below(int bound) {
        seed ^= seed << 13;
        seed ^= seed >>> 7;
        seed ^= seed << 17;
        return (int) Long.remainderUnsigned(seed * 0x2545F4914F6CDD1DL >>> 1, bound);
    }

    private boolean chance(int oneIn) {
        return below(oneIn) == 0;
    }

    private boolean isOver() {
        return failed || calls >= CALLS;
    }

    private long same(String call, long got, long want) {
        if (calls >= CALLS) {
            // What later calls answer is free.
            return want;
        }
        calls++;
        if (got != want) {
            failed = true;
            Check.due("run " + run + ", call " + calls + ": " + call, got, want);
        }
        if (want == Model.FULL) {
            fulls++;
        }
        return want;
    }

    private boolean same(String call, boolean got, boolean want) {
        return same(call, got ? 1L : 0L, want ? 1L : 0L) == 1;
    }

    private void go() {
        while (!isOver()) {
            fillTables();
            int queries = 1 + below(3);
            for (int i = 0; i < queries && !isOver(); i++) {
                makeQuery();
                startJob();
                runJob();
                readResult();
                changeQuery();
            }
        }
    }

    private int value() {
        if (big && chance(3)) {
            return EDGES[below(EDGES.length)];
        }
        return below(7) - 3;
    }

    private int wildInt() {
        return chance(4) ? EDGES[below(EDGES.length)] : below(16) - 3;
    }

    private void maybeWild() {
        if (chance(wild)) {
            wildCall();
        }
    }

    private void wildCall() {
        int a = wildInt();
        int b = wildInt();
        switch (below(18)) {
            case 0 -> row(a, wildInt(), wildInt(), b);
            case 1 -> from(a, b, wildInt(), wildInt(), wildInt());
            case 2 -> column(a);
            case 3 -> number(a);
            case 4 -> operate(a);
            case 5 -> where();
            case 6 -> output(a);
            case 7 -> group(a);
            case 8 -> order(a, chance(2), b);
            case 9 -> start(a, b);
            case 10 -> pass(a, b);
            case 11 -> work(a);
            case 12 -> crash(a);
            case 13 -> tick();
            case 14 -> message(a, b);
            case 15 -> task(a, b);
            case 16 -> ended(a);
            default -> readCell(a, b);
        }
    }

    private void fillTables() {
        int rows = big ? below(30) : below(14);
        for (int i = 0; i < rows && !isOver(); i++) {
            row(below(3), value(), value(), chance(3) ? below(4) : 0);
            maybeWild();
        }
    }

    private void makeQuery() {
        from(below(3), below(3), below(3), below(2), below(2));
        int conditions = chance(3) ? 0 : below(4);
        if (chance(20)) {
            conditions = 8;
        }
        for (int i = 0; i < conditions && !isOver(); i++) {
            makeExpression(true, below(4));
            where();
            maybeWild();
        }
        makeOutputs();
        if (chance(2)) {
            order(below(4), chance(2), chance(2) ? -1 : below(6));
        }
    }

    private void makeOutputs() {
        boolean plain = chance(2);
        int outputs = chance(10) ? 4 : 1 + below(3);
        for (int i = 0; i < outputs && !isOver(); i++) {
            int kind = plain ? 0 : 1 + below(5);
            if (kind != 1) {
                makeExpression(false, below(4));
            }
            output(kind);
            maybeWild();
        }
        if (!plain && chance(2)) {
            group(below(4));
        }
    }

    private void makeExpression(boolean truth, int depth) {
        if (isOver()) {
            return;
        }
        if (!truth) {
            if (depth == 0 || chance(4)) {
                if (chance(4)) {
                    number(value());
                } else {
                    column(below(4));
                }
                return;
            }
            makeExpression(false, depth - 1);
            makeExpression(false, depth - 1);
            operate(below(4));
        } else if (depth == 0 || chance(3)) {
            makeExpression(false, depth > 0 ? 1 : 0);
            if (chance(4)) {
                operate(9);
            } else {
                makeExpression(false, 0);
                operate(4 + below(2));
            }
        } else if (chance(3)) {
            makeExpression(true, depth - 1);
            operate(8);
        } else {
            makeExpression(true, depth - 1);
            makeExpression(true, depth - 1);
            operate(6 + below(2));
        }
    }

    private void startJob() {
        start(1 + below(4), 3 + below(6));
    }

    private void runJob() {
        int steps = below(floods ? 250 : 120);
        for (int i = 0; i < steps && !isOver() && model.message(-1, 0) != Model.NONE; i++) {
            int waiting = model.message(-1, 0);
            int k = waiting == 0 ? 0 : chance(2) ? 0 : below(waiting);
            int choice = below(floods ? 24 : 16);
            if (choice < 6) {
                pass(k, 0);
            } else if (choice < 10) {
                work(below(4));
            } else if (choice == 10) {
                pass(k, 1);
            } else if (choice == 11) {
                crash(below(4));
            } else if (choice < 14) {
                tick();
            } else if (choice == 14) {
                message(k, below(5));
            } else if (choice == 15) {
                task(below(17), below(5));
            } else {
                pass(k, 2);
            }
            maybeWild();
        }
        for (int i = 0; i < 80 && !isOver() && model.message(-1, 0) != Model.NONE; i++) {
            if (pass(model.message(-1, 0) - 1, 0) == Model.NONE) {
                tick();
            }
            work(below(4));
        }
    }

    private void readResult() {
        int rows = model.ended(0);
        if (rows >= 0) {
            jobsEnded++;
            rowsSeen += rows;
        }
        for (int what = 0; what < 4 && !isOver(); what++) {
            ended(what);
        }
        for (int t = 0; t < 16 && !isOver() && chance(2); t++) {
            task(below(17), 2 + below(3));
        }
        for (int i = 0; i <= Math.min(rows, 8) && !isOver(); i++) {
            int at = rows > 8 ? below(rows) : i;
            for (int c = 0; c < 4 && !isOver(); c++) {
                readCell(at, c);
            }
        }
    }

    private void changeQuery() {
        if (!isOver() && chance(3)) {
            makeExpression(true, below(3));
            where();
            startJob();
            runJob();
            readResult();
        }
    }

    private void row(int table, int a, int b, int nulls) {
        same("row(" + table + ", " + a + ", " + b + ", " + nulls + ")", x.row(table, a, b, nulls), model.row(table, a, b, nulls));
    }

    private void from(int kind, int first, int second, int left, int right) {
        String call = "from(" + kind + ", " + first + ", " + second + ", " + left + ", " + right + ")";
        same(call, x.from(kind, first, second, left, right), model.from(kind, first, second, left, right));
    }

    private void column(int c) {
        same("column(" + c + ")", x.column(c), model.column(c));
    }

    private void number(int v) {
        same("number(" + v + ")", x.number(v), model.number(v));
    }

    private void operate(int op) {
        same("operate(" + op + ")", x.operate(op), model.operate(op));
    }

    private void where() {
        same("where()", x.where(), model.where());
    }

    private void output(int kind) {
        same("output(" + kind + ")", x.output(kind), model.output(kind));
    }

    private void group(int c) {
        same("group(" + c + ")", x.group(c), model.group(c));
    }

    private void order(int column, boolean down, int limit) {
        same("order(" + column + ", " + down + ", " + limit + ")", x.order(column, down, limit), model.order(column, down, limit));
    }

    private void start(int workers, int memory) {
        same("start(" + workers + ", " + memory + ")", x.start(workers, memory), model.start(workers, memory));
    }

    private long pass(int k, int how) {
        return same("pass(" + k + ", " + how + ")", x.pass(k, how), model.pass(k, how));
    }

    private void work(int worker) {
        same("work(" + worker + ")", x.work(worker), model.work(worker));
    }

    private void crash(int worker) {
        same("crash(" + worker + ")", x.crash(worker), model.crash(worker));
    }

    private void tick() {
        same("tick()", x.tick(), model.tick());
    }

    private void message(int k, int what) {
        same("message(" + k + ", " + what + ")", x.message(k, what), model.message(k, what));
    }

    private void task(int t, int what) {
        same("task(" + t + ", " + what + ")", x.task(t, what), model.task(t, what));
    }

    private void ended(int what) {
        same("ended(" + what + ")", x.ended(what), model.ended(what));
    }

    private void readCell(int i, int c) {
        same("cell(" + i + ", " + c + ")", x.cell(i, c), model.cell(i, c));
        same("missing(" + i + ", " + c + ")", x.missing(i, c), model.missing(i, c));
    }
}
