/** Promises 18 to 20: what a job that ended answers. */
public final class ResultTest {
    private static final int NONE = QueryFleet.NONE;

    private ResultTest() {
    }

    public static void main(String[] args) {
        promise18Refused();
        promise18RowsAndColumns();
        promise18Passes();
        promise18Ignored();
        promise19Cell();
        promise20Missing();
        Check.end();
    }

    private static QueryFleet withRows(int rows) {
        QueryFleet x = new QueryFleet();
        for (int i = 0; i < rows; i++) {
            x.row(0, i, 7, i % 2 == 0 ? 2 : 0);
        }
        x.from(0, 0, 0, 0, 0);
        Check.output(x, 0, "c0");
        Check.output(x, 0, "c1");
        return x;
    }

    private static void promise18Refused() {
        QueryFleet x = withRows(3);
        Check.due("18: none was started", x.ended(0), NONE);
        x.start(1, 3);
        for (int what = 0; what <= 3; what++) {
            Check.due("18: a job is on", x.ended(what), NONE);
        }
        Check.finish(x);
        Check.due("18: what -1", x.ended(-1), NONE);
        Check.due("18: what 4", x.ended(4), NONE);
        Check.due("18: rows", x.ended(0), 3);
        x.start(1, 3);
        Check.due("18: another job is on", x.ended(0), NONE);
    }

    private static void promise18RowsAndColumns() {
        QueryFleet x = withRows(5);
        x.order(0, false, 4);
        x.start(2, 3);
        Check.finish(x);
        Check.due("18: rows that count", x.ended(0), 4);
        Check.due("18: columns", x.ended(1), 2);
        Check.due("18: passes over all rows", x.ended(2), 2);
        x.from(0, 0, 0, 0, 0);
        x.group(1);
        x.start(2, 3);
        Check.finish(x);
        Check.due("18: groups", x.ended(0), 2);
        Check.due("18: the group column alone", x.ended(1), 1);
        x.output(1);
        x.output(1);
        x.output(1);
        x.order(0, false, 0);
        x.start(2, 3);
        Check.finish(x);
        Check.due("18: no row counts", x.ended(0), 0);
        Check.due("18: but there are columns", x.ended(1), 4);
        Check.due("18: and one pass", x.ended(2), 1);
    }

    private static void promise18Passes() {
        for (int memory = 3; memory <= 8; memory++) {
            for (int left = 0; left <= 12; left++) {
                for (int right = 1; right <= 12; right++) {
                    QueryFleet x = new QueryFleet();
                    for (int i = 0; i < left; i++) {
                        x.row(0, 1, i, 0);
                    }
                    for (int i = 0; i < right; i++) {
                        x.row(1, 1, i, 0);
                    }
                    x.from(1, 0, 1, 0, 0);
                    Check.output(x, 0, "c1");
                    x.start(1, memory);
                    Check.finish(x);
                    Check.due("18: rows", x.ended(0), left * right);
                    Check.due("18: passes of " + left * right + " with " + memory, x.ended(2), passes(left * right, memory));
                }
            }
        }
        QueryFleet none = withRows(4);
        none.start(1, 3);
        Check.finish(none);
        Check.due("18: passes of 4 with 3", none.ended(2), 2);
        Check.where(none, "1 2 =");
        none.start(1, 3);
        Check.finish(none);
        Check.due("18: no rows, no pass", none.ended(2), 0);
        // Worked out by hand: 144 rows make 48 runs of 3, then 24, 12, 6, 3, 2, 1.
        Check.due("18: 144 with 3", passes(144, 3), 7);
        // 18 runs of 8, then 3, then 1.
        Check.due("18: 144 with 8", passes(144, 8), 3);
    }

    private static int passes(int rows, int memory) {
        int passes = 0;
        // After p passes a run has memory * (memory - 1) ^ (p - 1) rows.
        for (int run = memory; rows > 0 && (passes == 0 || run < rows); passes++) {
            run = passes == 0 ? memory : run * (memory - 1);
        }
        return passes;
    }

    private static void promise18Ignored() {
        QueryFleet x = withRows(3);
        x.start(2, 3);
        Check.deliverAndWork(x);
        for (int i = 0; i < 5; i++) {
            x.pass(0, 2);
        }
        for (int i = 0; i < 3; i++) {
            x.pass(2, 0);
        }
        Check.finish(x);
        // Six DONEs of task 0: three of the copies come first, then the first one; two are never delivered.
        Check.due("18: ignored", x.ended(3), 3);
    }

    private static void promise19Cell() {
        QueryFleet x = withRows(4);
        Check.due("19: no job", x.cell(0, 0), 0);
        x.order(0, true, 3);
        x.start(2, 3);
        Check.due("19: a job is on", x.cell(0, 0), 0);
        Check.finish(x);
        Check.due("19: row 0", x.cell(0, 0), 3);
        Check.due("19: row 2", x.cell(2, 0), 1);
        Check.due("19: row 2, column 1", x.cell(2, 1), 7);
        Check.due("19: NULL", x.cell(1, 1), 0);
        Check.due("19: a row that doesn't count", x.cell(3, 0), 0);
        Check.due("19: row -1", x.cell(-1, 0), 0);
        Check.due("19: column -1", x.cell(1, -1), 0);
        Check.due("19: column 2", x.cell(1, 2), 0);
        Check.due("19: row far off", x.cell(Integer.MAX_VALUE, 0), 0);
        Check.due("19: column far off", x.cell(0, Integer.MIN_VALUE), 0);
        x.start(2, 3);
        Check.due("19: gone again", x.cell(0, 0), 0);
    }

    private static void promise20Missing() {
        QueryFleet x = withRows(4);
        Check.due("20: no job", x.missing(0, 0), false);
        x.order(1, false, 3);
        x.start(2, 3);
        Check.due("20: a job is on", x.missing(0, 1), false);
        Check.finish(x);
        Check.dueRows("20: NULL is the least", x, "0,- 2,- 1,7");
        Check.due("20: NULL", x.missing(1, 1), true);
        Check.due("20: 0 is not", x.missing(0, 0), false);
        Check.due("20: nor is 7", x.missing(2, 1), false);
        Check.due("20: row -1", x.missing(-1, 1), false);
        Check.due("20: column 2", x.missing(0, 2), false);
        Check.due("20: column -1", x.missing(0, -1), false);
        Check.due("20: far off", x.missing(Integer.MIN_VALUE, Integer.MAX_VALUE), false);
        x.order(1, false, 1);
        x.start(2, 3);
        Check.due("20: the result is gone", x.missing(0, 1), false);
        Check.finish(x);
        Check.due("20: a row that counts", x.missing(0, 1), true);
        Check.due("20: a row that doesn't", x.missing(1, 1), false);
    }
}
