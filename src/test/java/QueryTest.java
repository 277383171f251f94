/** Promises 1 to 10: a new object, tables, and the making of a query. */
public final class QueryTest {
    private static final int NONE = QueryFleet.NONE;
    private static final int FULL = QueryFleet.FULL;

    private QueryTest() {
    }

    public static void main(String[] args) {
        promise1NewObject();
        promise2Row();
        promise3From();
        promise3FromForgets();
        promise4Column();
        promise5Number();
        promise6OperateKinds();
        promise6OperateParts();
        promise7Where();
        promise8Output();
        promise9Group();
        promise10Order();
        whileAJobIsOn();
        Check.end();
    }

    private static void promise1NewObject() {
        QueryFleet x = new QueryFleet();
        Check.due("1: column", x.column(0), false);
        Check.due("1: number", x.number(0), false);
        Check.due("1: operate", x.operate(0), false);
        Check.due("1: where", x.where(), false);
        Check.due("1: output", x.output(1), false);
        Check.due("1: group", x.group(0), false);
        Check.due("1: order", x.order(0, false, -1), false);
        Check.due("1: start", x.start(1, 3), NONE);
        Check.due("1: pass", x.pass(0, 0), NONE);
        Check.due("1: work", x.work(0), NONE);
        Check.due("1: crash", x.crash(0), NONE);
        Check.due("1: tick", x.tick(), NONE);
        Check.due("1: message count", x.message(-1, 0), NONE);
        Check.due("1: task", x.task(0, 0), NONE);
        Check.due("1: ended", x.ended(0), NONE);
        Check.due("1: cell", x.cell(0, 0), 0);
        Check.due("1: missing", x.missing(0, 0), false);
        for (int table = 0; table < 3; table++) {
            Check.due("1: first row of table " + table, x.row(table, 5, 5, 0), 1);
        }
    }

    private static void promise2Row() {
        QueryFleet x = new QueryFleet();
        Check.due("2: table -1", x.row(-1, 0, 0, 0), NONE);
        Check.due("2: table 3", x.row(3, 0, 0, 0), NONE);
        Check.due("2: nulls -1", x.row(0, 0, 0, -1), NONE);
        Check.due("2: nulls 4", x.row(0, 0, 0, 4), NONE);
        for (int i = 1; i <= 12; i++) {
            Check.due("2: row " + i, x.row(1, i, -i, 0), i);
        }
        Check.due("2: a 13th row", x.row(1, 1, 1, 0), FULL);
        Check.due("2: a 13th row with wrong nulls", x.row(1, 1, 1, 4), NONE);
        Check.due("2: the others are empty", x.row(0, 1, 2, 0), 1);
        x.row(0, 3, 4, 1);
        x.row(0, 5, 6, 2);
        x.row(0, 7, 8, 3);
        x.row(0, Integer.MIN_VALUE, Integer.MAX_VALUE, 0);
        x.from(0, 0, 0, 0, 0);
        Check.output(x, 0, "c0");
        Check.output(x, 0, "c1");
        x.start(1, 3);
        Check.finish(x);
        Check.dueRows("2: nulls by bits", x, "-,- -,4 -2147483648,2147483647 1,2 5,-");
    }

    private static void promise3From() {
        QueryFleet x = new QueryFleet();
        Check.due("3: kind -1", x.from(-1, 0, 0, 0, 0), false);
        Check.due("3: kind 3", x.from(3, 0, 0, 0, 0), false);
        Check.due("3: first -1", x.from(0, -1, 0, 0, 0), false);
        Check.due("3: first 3", x.from(0, 3, 0, 0, 0), false);
        for (int kind = 1; kind <= 2; kind++) {
            Check.due("3: join, first 3", x.from(kind, 3, 0, 0, 0), false);
            Check.due("3: second -1", x.from(kind, 0, -1, 0, 0), false);
            Check.due("3: second 3", x.from(kind, 0, 3, 0, 0), false);
            Check.due("3: left -1", x.from(kind, 0, 1, -1, 0), false);
            Check.due("3: left 2", x.from(kind, 0, 1, 2, 0), false);
            Check.due("3: right -1", x.from(kind, 0, 1, 0, -1), false);
            Check.due("3: right 2", x.from(kind, 0, 1, 0, 2), false);
        }
        Check.due("3: nothing was begun", x.number(1), false);
        Check.due("3: alone, the rest does not count", x.from(0, 2, -9, 44, 17), true);
        Check.due("3: begun", x.number(1), true);
        Check.due("3: inner", x.from(1, 2, 2, 1, 0), true);
        Check.due("3: outer", x.from(2, 0, 1, 0, 1), true);
    }

    private static void promise3FromForgets() {
        QueryFleet x = new QueryFleet();
        x.row(0, 1, 5, 0);
        x.row(0, 2, 5, 0);
        x.row(0, 3, 6, 0);
        x.from(0, 0, 0, 0, 0);
        Check.where(x, "c0 3 <");
        Check.output(x, 3, "c0");
        x.group(1);
        x.order(1, true, 1);
        x.number(4);
        Check.due("3: a wrong from changes nothing", x.from(7, 0, 0, 0, 0), false);
        Check.due("3: the stack was left", x.start(1, 3), NONE);
        Check.due("3: the outputs were left", x.output(3), true);
        x.start(1, 3);
        Check.finish(x);
        Check.dueRows("3: all of the query was left", x, "5,3,8");
        Check.due("3: one group", x.ended(0), 1);
        x.number(4);
        x.from(0, 0, 0, 0, 0);
        Check.output(x, 0, "c0");
        Check.due("3: a group would forbid this", x.start(1, 3), 1);
        Check.finish(x);
        Check.dueRows("3: no condition, order, limit", x, "1 2 3");
        Check.output(x, 0, "0 c0 -");
        x.order(1, false, -1);
        x.from(0, 0, 0, 0, 0);
        Check.output(x, 0, "c0");
        Check.output(x, 0, "0 c0 -");
        x.start(1, 3);
        Check.finish(x);
        Check.dueRows("3: by column 0 again", x, "1,-1 2,-2 3,-3");
    }

    private static void promise4Column() {
        QueryFleet x = new QueryFleet();
        x.from(0, 0, 0, 0, 0);
        Check.due("4: column -1", x.column(-1), false);
        Check.due("4: column 2 of one table", x.column(2), false);
        Check.due("4: column 1 of one table", x.column(1), true);
        for (int kind = 1; kind <= 2; kind++) {
            x.from(kind, 0, 1, 0, 0);
            Check.due("4: column 4", x.column(4), false);
            for (int i = 0; i < 8; i++) {
                Check.due("4: column " + i % 4, x.column(i % 4), true);
            }
            Check.due("4: a ninth", x.column(0), false);
            for (int i = 0; i < 7; i++) {
                Check.due("4: exactly eight are there", x.operate(0), true);
            }
            Check.due("4: no more of them", x.operate(0), false);
        }
        x = new QueryFleet();
        x.row(0, 3, 4, 0);
        x.row(1, 4, 6, 0);
        x.from(1, 0, 1, 1, 0);
        Check.output(x, 0, "c0 1000 * c1 100 * + c2 10 * + c3 +");
        x.start(1, 3);
        Check.finish(x);
        Check.dueRows("4: which columns they are", x, "3446");
    }

    private static void promise5Number() {
        QueryFleet x = new QueryFleet();
        x.row(0, 1, 1, 0);
        x.from(0, 0, 0, 0, 0);
        for (int i = 0; i < 8; i++) {
            Check.due("5: number", x.number(i), true);
        }
        Check.due("5: a ninth", x.number(8), false);
        Check.due("5: nor a column", x.column(0), false);
        x.operate(0);
        Check.due("5: room again", x.number(8), true);
        x.from(0, 0, 0, 0, 0);
        Check.output(x, 0, "-2147483648");
        Check.output(x, 0, "2147483647");
        x.start(1, 3);
        Check.finish(x);
        Check.dueRows("5: the ends", x, "-2147483648,2147483647");
    }

    private static void promise6OperateKinds() {
        for (int op = 0; op <= 9; op++) {
            boolean two = op < 8;
            boolean truths = op >= 6 && op <= 8;
            for (int below = 0; below < 3; below++) {
                for (int top = 0; top < 3; top++) {
                    QueryFleet x = new QueryFleet();
                    x.from(0, 0, 0, 0, 0);
                    putKind(x, below);
                    putKind(x, top);
                    int needed = truths ? 2 : 1;
                    boolean fits = two ? below == needed && top == needed : top == needed;
                    if (top == 0) {
                        fits = !two && below == needed;
                    }
                    String call = "6: operate(" + op + ") on " + below + " " + top;
                    Check.due(call, x.operate(op), fits);
                    if (!fits && below == 1 && top == 1) {
                        Check.due(call + " left it", x.operate(0), true);
                    }
                    if (fits && (two || below == 0 || top == 0)) {
                        Check.due(call + " made a truth", x.where(), op >= 4);
                        Check.due(call + " made a number", x.output(0), op < 4);
                    }
                }
            }
        }
        QueryFleet x = new QueryFleet();
        x.from(0, 0, 0, 0, 0);
        x.number(1);
        x.number(1);
        Check.due("6: op -1", x.operate(-1), false);
        Check.due("6: op 10", x.operate(10), false);
        Check.due("6: op 11", x.operate(11), false);
        Check.due("6: on top, not below", Check.put(x, "c0 null"), true);
        Check.due("6: the truth stays on top", x.operate(0), false);
        Check.due("6: a truth alone is enough for NOT", x.operate(8), true);
    }

    /** 0 nothing, 1 a number, 2 a truth. */
    private static void putKind(QueryFleet x, int kind) {
        if (kind > 0) {
            x.number(1);
        }
        if (kind > 1) {
            x.operate(9);
        }
    }

    private static void promise6OperateParts() {
        QueryFleet x = new QueryFleet();
        x.row(0, 2, 5, 0);
        x.from(0, 0, 0, 0, 0);
        putSum(x, 11);
        Check.due("6: 22 parts", x.operate(9), true);
        Check.due("6: 23 parts", x.operate(8), true);
        Check.due("6: 24 parts", x.operate(8), true);
        Check.due("6: 25 parts", x.operate(8), false);
        Check.due("6: it is as before", x.where(), true);
        putSum(x, 12);
        Check.due("6: 23 and 1 and 1 parts", Check.put(x, "1"), true);
        Check.due("6: 25 parts of two", x.operate(0), false);
        Check.due("6: both are there", x.output(0), false);
        x.from(0, 0, 0, 0, 0);
        putSum(x, 11);
        Check.due("6: 21 and 1 and 1 parts", Check.put(x, "c1 +"), true);
        Check.due("6: output", x.output(0), true);
        putSum(x, 6);
        putSum(x, 6);
        Check.due("6: 11 and 11 and 1 parts", x.operate(2), true);
        Check.due("6: output", x.output(0), true);
        putSum(x, 6);
        putSum(x, 7);
        Check.due("6: 11 and 13 and 1 parts", x.operate(2), false);
        x.from(0, 0, 0, 0, 0);
        putSum(x, 6);
        Check.put(x, "c0 c0 + c0 + c0 + c0 + c0 c0 * +");
        Check.due("6: 11 and 13 would be 25", x.operate(0), false);
        x.from(0, 0, 0, 0, 0);
        putSum(x, 11);
        Check.put(x, "c1");
        Check.put(x, "null not");
        Check.due("6: a truth over a number", x.operate(0), false);
        x.from(0, 0, 0, 0, 0);
        putSum(x, 12);
        Check.due("6: IS NULL as the 24th part", x.operate(9), true);
        Check.due("6: NOT would be the 25th", x.operate(8), false);
    }

    /** The sum of so many columns 0: 2 * columns - 1 parts. */
    private static void putSum(QueryFleet x, int columns) {
        x.column(0);
        for (int i = 1; i < columns; i++) {
            x.column(0);
            x.operate(0);
        }
    }

    private static void promise7Where() {
        QueryFleet x = new QueryFleet();
        x.row(0, 1, 1, 0);
        x.row(0, 2, 2, 0);
        x.from(0, 0, 0, 0, 0);
        Check.due("7: nothing there", x.where(), false);
        x.number(1);
        Check.due("7: a number", x.where(), false);
        x.operate(9);
        x.operate(8);
        x.number(2);
        Check.due("7: a number over a truth", x.where(), false);
        Check.put(x, "2 =");
        Check.due("7: two truths", x.where(), false);
        x.operate(6);
        Check.due("7: one truth", x.where(), true);
        Check.due("7: it was taken off", x.where(), false);
        for (int i = 2; i <= 6; i++) {
            Check.where(x, "c0 2 =");
        }
        Check.put(x, "c0 1 =");
        Check.due("7: a seventh", x.where(), false);
        Check.due("7: it is still on the stack", x.operate(8), true);
        Check.due("7: so a job can't start", x.start(1, 3), NONE);
        x.from(0, 0, 0, 0, 0);
        Check.where(x, "c0 1 = not");
        Check.output(x, 0, "c0");
        x.start(1, 3);
        Check.finish(x);
        Check.dueRows("7: only the true ones", x, "2");
    }

    private static void promise8Output() {
        QueryFleet x = new QueryFleet();
        x.from(0, 0, 0, 0, 0);
        for (int kind = 0; kind <= 5; kind++) {
            x.from(0, 0, 0, 0, 0);
            Check.due("8: empty stack, kind " + kind, x.output(kind), kind == 1);
            x.number(1);
            Check.due("8: kind -1", x.output(-1), false);
            Check.due("8: kind 6", x.output(6), false);
            Check.due("8: a number, kind " + kind, x.output(kind), kind != 1);
            x.from(0, 0, 0, 0, 0);
            Check.put(x, "1 null");
            Check.due("8: a truth, kind " + kind, x.output(kind), false);
            x.from(0, 0, 0, 0, 0);
            Check.put(x, "1 2");
            Check.due("8: two numbers, kind " + kind, x.output(kind), false);
        }
        x.from(0, 0, 0, 0, 0);
        for (int i = 0; i < 3; i++) {
            Check.output(x, 0, "c0");
        }
        Check.due("8: a fourth, of rows", x.output(1), false);
        x.number(1);
        Check.due("8: a fourth", x.output(0), false);
        Check.due("8: the number is still there", x.operate(9), true);
    }

    private static void promise9Group() {
        QueryFleet x = new QueryFleet();
        x.row(0, 1, 5, 0);
        x.row(0, 2, 5, 0);
        x.from(0, 0, 0, 0, 0);
        Check.due("9: -1", x.group(-1), false);
        Check.due("9: 2 over one table", x.group(2), false);
        Check.due("9: no group came of it", x.start(1, 3), NONE);
        Check.due("9: 0", x.group(0), true);
        Check.due("9: instead of another one", x.group(1), true);
        Check.due("9: a wrong one leaves it", x.group(2), false);
        Check.due("9: a group alone is whole", x.start(1, 3), 2);
        Check.finish(x);
        Check.dueRows("9: by column 1", x, "5");
        x.from(1, 0, 0, 0, 0);
        Check.due("9: 4", x.group(4), false);
        Check.due("9: 3 of a join", x.group(3), true);
        x.from(2, 0, 0, 0, 0);
        Check.due("9: 2 of a join", x.group(2), true);
        x.number(1);
        Check.due("9: whatever is on the stack", x.group(0), true);
    }

    private static void promise10Order() {
        QueryFleet x = new QueryFleet();
        x.row(0, 1, 3, 0);
        x.row(0, 2, 1, 0);
        x.row(0, 3, 2, 0);
        x.from(0, 0, 0, 0, 0);
        Check.output(x, 0, "c0");
        Check.output(x, 0, "c1");
        Check.due("10: -1", x.order(-1, false, 1), false);
        Check.due("10: 4", x.order(4, false, 1), false);
        Check.due("10: 1 down", x.order(1, true, 2), true);
        Check.due("10: a wrong one changes nothing", x.order(4, false, 0), false);
        dueOrdered(x, "10: the greatest first, two of them", "1,3 3,2");
        x.order(1, false, -1);
        dueOrdered(x, "10: up, no limit", "2,1 3,2 1,3");
        x.order(1, false, Integer.MIN_VALUE);
        dueOrdered(x, "10: no limit", "2,1 3,2 1,3");
        x.order(0, false, 0);
        dueOrdered(x, "10: no row counts", "");
        x.order(0, true, Integer.MAX_VALUE);
        dueOrdered(x, "10: column 0 down", "3,2 2,1 1,3");
        x.order(3, true, 3);
        dueOrdered(x, "10: column 3 counts as 0", "3,2 2,1 1,3");
        x.order(2, false, 1);
        dueOrdered(x, "10: column 2 counts as 0", "1,3");
        x.order(2, true, 1);
        dueOrdered(x, "10: column 2 counts as 0, down", "3,2");
        x.order(2, false, -1);
        Check.output(x, 0, "0 c1 -");
        dueOrdered(x, "10: column 2 is there now", "1,3,-3 3,2,-2 2,1,-1");
    }

    private static void dueOrdered(QueryFleet x, String what, String want) {
        x.start(2, 3);
        Check.finish(x);
        Check.dueRows(what, x, want);
    }

    private static void whileAJobIsOn() {
        QueryFleet x = new QueryFleet();
        x.row(0, 1, 2, 0);
        x.row(1, 1, 3, 0);
        x.from(1, 0, 1, 0, 0);
        x.output(1);
        x.start(2, 3);
        Check.due("2: a job is on", x.row(0, 1, 1, 0), NONE);
        Check.due("3: a job is on", x.from(0, 0, 0, 0, 0), false);
        Check.due("4: a job is on", x.column(0), false);
        Check.due("5: a job is on", x.number(0), false);
        Check.due("8: a job is on", x.output(1), false);
        Check.due("9: a job is on", x.group(0), false);
        Check.due("10: a job is on", x.order(0, false, 0), false);
        Check.due("11: a job is on", x.start(1, 3), NONE);
        Check.finish(x);
        Check.dueRows("nothing was changed", x, "1");
        Check.due("2: the row was not added", x.row(0, 1, 1, 0), 2);
        Check.due("5: the stack is empty", x.output(1), true);
        Check.put(x, "1 1 =");
        Check.due("6: an operation would fit", x.start(1, 3), NONE);
        x.where();
        x.start(1, 3);
        Check.due("6: a job is on", x.operate(8), false);
        Check.due("7: a job is on", x.where(), false);
    }
}
