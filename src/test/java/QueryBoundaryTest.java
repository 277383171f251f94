/** The boundary cases of promises 1 to 10: each test is of one sentence, or of one reason to refuse. */
public final class QueryBoundaryTest {
    private static final String[] FAR = {"min", "max"};
    private static final String TABLES = "row 0 1 10 0; row 0 2 20 0; row 0 3 0 2; row 1 1 5 0; row 1 2 6 0; row 2 7 7 0; ";
    private static final String ALONE = TABLES + "from 0 0 0 0 0; ";
    private static final String INNER = TABLES + "from 1 0 1 0 0; ";
    private static final String OUTER = TABLES + "from 2 0 1 0 0; ";
    /** A job is on whose query could take one more of everything. */
    private static final String ON = INNER + "output 1; put c0 c2 =; where; start 2 3";
    private static final String ENDED = ON + "; finish";
    /** A query that has something of everything, so that nothing of it could get lost unseen. */
    private static final String ALL = ALONE + "put c0 3 <; where; put c0; output 3; group 1; order 1 down 1; number 4";

    private QueryBoundaryTest() {
    }

    public static void main(String[] args) {
        newObject();
        rowNulls();
        rowJobIsOn();
        rowTable();
        rowNullsOutOfRange();
        rowFull();
        fromForgets();
        fromAloneIgnoresTheRest();
        fromJobIsOn();
        fromKind();
        fromFirst();
        fromSecondLeftRight();
        columnTooFar();
        columnNotNow();
        columnStackFull();
        numberEnds();
        numberNotNow();
        numberStackFull();
        operateOutOfRange();
        operateNotNow();
        operateTooFew();
        operateWrongKinds();
        operateTooManyParts();
        whereNotNow();
        whereNotExactlyOne();
        whereNoTruth();
        whereFull();
        outputNotNow();
        outputKind();
        outputStack();
        outputFull();
        groupColumn();
        groupInsteadOfAnother();
        groupNotNow();
        orderColumn();
        orderLimit();
        orderColumnThatIsNotThere();
        orderNotNow();
        Check.end();
    }

    /** Promise 1: Tables without rows, no query, no job, time 0. */
    private static void newObject() {
        for (int table = 0; table <= 2; table++) {
            Bound.taken("1: no rows", "", "row " + table + " 1 1 0", 1);
        }
        String[] queryCalls = {"column 0", "number 0", "operate 0", "where", "output 1", "group 0", "order 0 up -1"};
        for (String call : queryCalls) {
            Bound.refused("1: no query", "", call, Bound.FALSE);
        }
        String[] jobCalls = {
            "start 1 3", "pass 0 0", "work 0", "crash 0", "tick", "message -1 0", "message 0 0", "task 0 0", "ended 0", "ended 3"
        };
        for (String call : jobCalls) {
            Bound.refused("1: no job", "", call, Bound.NONE);
        }
        Bound.refused("1: no result", "", "cell 0 0", 0);
        Bound.refused("1: no result", "", "missing 0 0", Bound.FALSE);
    }

    /** Promise 2: x is NULL if nulls has bit 0, y if it has bit 1. */
    private static void rowNulls() {
        String[] rows = {"8,9", "-,9", "8,-", "-,-"};
        for (int nulls = 0; nulls <= 3; nulls++) {
            Bound.taken("2: nulls", "", "row 0 8 9 " + nulls, 1);
            Bound.rows("2: nulls", "row 0 8 9 " + nulls + "; from 0 0 0 0 0; put c0; output 0; put c1; output 0; start 1 3", rows[nulls]);
        }
    }

    /** Promise 2: NONE: a job is on. */
    private static void rowJobIsOn() {
        for (int table = 0; table <= 2; table++) {
            Bound.refused("2: a job is on", ON, "row " + table + " 1 1 0", Bound.NONE);
        }
        Bound.refused("2: a job is on, the table is full", "12* row 0 1 1 0; from 0 0 0 0 0; output 1; start 1 3", "row 0 1 1 0", Bound.NONE);
        Bound.taken("2: before it starts", INNER + "output 1", "row 0 1 1 0", 4);
        Bound.taken("2: when it has ended", ENDED, "row 0 1 1 0", 4);
    }

    /** Promise 2: NONE: table isn't 0 .. 2. */
    private static void rowTable() {
        Bound.taken("2: table 0", ALL, "row 0 1 1 0", 4);
        Bound.taken("2: table 2", ALL, "row 2 1 1 0", 2);
        Bound.refused("2: table -1", ALL, "row -1 1 1 0", Bound.NONE);
        Bound.refused("2: table 3", ALL, "row 3 1 1 0", Bound.NONE);
        for (String far : FAR) {
            Bound.refused("2: table far off", ALL, "row " + far + " 1 1 0", Bound.NONE);
        }
    }

    /** Promise 2: NONE: nulls isn't 0 .. 3. */
    private static void rowNullsOutOfRange() {
        Bound.taken("2: nulls 3", ALL, "row 0 1 1 3", 4);
        Bound.refused("2: nulls -1", ALL, "row 0 1 1 -1", Bound.NONE);
        Bound.refused("2: nulls 4", ALL, "row 0 1 1 4", Bound.NONE);
        for (String far : FAR) {
            Bound.refused("2: nulls far off", ALL, "row 0 1 1 " + far, Bound.NONE);
        }
    }

    /** Promise 2: FULL: 12 rows are there. */
    private static void rowFull() {
        for (int table = 0; table <= 2; table++) {
            String row = "row " + table + " 1 1 0";
            for (int i = 0; i < 12; i++) {
                Bound.due("2: how many the table has then", i + "* " + row, row, i + 1);
            }
            Bound.refused("2: 12 rows are there", "12* " + row, row, Bound.FULL);
            Bound.refused("2: 12 rows are there, with NULLs", "12* " + row, "row " + table + " 5 5 3", Bound.FULL);
        }
        Bound.refused("2: a full table, wrong nulls", "12* row 0 1 1 0", "row 0 1 1 4", Bound.NONE);
    }

    /** Promise 3: what there was of one before is gone, its group, order and limit, too; an empty stack. */
    private static void fromForgets() {
        String from = "; from 0 0 0 0 0; ";
        Bound.taken("3: something is gone", ALL, "from 0 0 0 0 0", Bound.TRUE);
        Bound.rows("3: conditions", ALONE + "put 1 2 =; where" + from + "put c0; output 0; start 1 3", "1 2 3");
        Bound.due("3: room for six again", ALONE + conditions(6) + from + conditions(5) + "put 1 1 =", "where", Bound.TRUE);
        Bound.rows("3: outputs", ALONE + "put 9; output 0; put 8; output 0; put 7; output 0" + from + "put c0; output 0; start 1 3", "1 2 3");
        Bound.rows("3: aggregates", ALONE + "output 1" + from + "put c0; output 0; start 1 3", "1 2 3");
        Bound.rows("3: the group", ALONE + "group 0" + from + "put c0; output 0; start 1 3", "1 2 3");
        Bound.rows("3: the direction", ALONE + "order 0 down -1" + from + "put c0; output 0; start 1 3", "1 2 3");
        Bound.rows("3: the column", ALONE + "order 1 up -1" + from + "put c0; output 0; put c1; output 0; start 1 3", "1,10 2,20 3,-");
        Bound.rows("3: the limit", ALONE + "order 0 up 0" + from + "put c0; output 0; start 1 3", "1 2 3");
        Bound.rows("3: the stack", ALONE + "8* number 3" + from + "put c0; output 0; start 1 3", "1 2 3");
        Bound.due("3: no query is whole without outputs", ALONE + "output 1" + from, "start 1 3", Bound.NONE);
        Bound.due("3: the join", INNER + "put c3; output 0" + from, "column 2", Bound.FALSE);
        Bound.due("3: the result stays", ENDED + from, "ended 0", 1);
    }

    private static String conditions(int many) {
        return "put 1 1 =; where; ".repeat(many);
    }

    /** Promise 3: kind 0 over the table first alone (second, left and right don't count). */
    private static void fromAloneIgnoresTheRest() {
        for (String odd : new String[] {"-1", "2", "3", "min", "max"}) {
            Bound.taken("3: second", ALL, "from 0 2 " + odd + " 0 0", Bound.TRUE);
            Bound.taken("3: left", ALL, "from 0 2 0 " + odd + " 0", Bound.TRUE);
            Bound.taken("3: right", ALL, "from 0 2 0 0 " + odd, Bound.TRUE);
            Bound.rows("3: all of them", TABLES + "from 0 2 " + odd + " " + odd + " " + odd + "; put c0; output 0; start 1 3", "7");
        }
    }

    /** Promise 3: False, changing nothing: a job is on. */
    private static void fromJobIsOn() {
        for (int kind = 0; kind <= 2; kind++) {
            Bound.refused("3: a job is on", ON, "from " + kind + " 0 1 0 0", Bound.FALSE);
            Bound.taken("3: it has ended", ENDED, "from " + kind + " 0 1 0 0", Bound.TRUE);
        }
    }

    /** Promise 3: False, changing nothing: kind isn't 0 .. 2. */
    private static void fromKind() {
        Bound.taken("3: kind 0", ALL, "from 0 0 1 0 0", Bound.TRUE);
        Bound.taken("3: kind 2", ALL, "from 2 0 1 0 0", Bound.TRUE);
        for (String kind : new String[] {"-1", "3", "min", "max"}) {
            Bound.refused("3: kind", ALL, "from " + kind + " 0 1 0 0", Bound.FALSE);
            Bound.refused("3: kind, nothing begun", TABLES, "from " + kind + " 0 1 0 0", Bound.FALSE);
        }
    }

    /** Promise 3: False, changing nothing: first isn't a table. */
    private static void fromFirst() {
        for (int kind = 0; kind <= 2; kind++) {
            Bound.taken("3: first 0", ALL, "from " + kind + " 0 1 0 0", Bound.TRUE);
            Bound.taken("3: first 2", ALL, "from " + kind + " 2 1 0 0", Bound.TRUE);
            for (String first : new String[] {"-1", "3", "min", "max"}) {
                Bound.refused("3: first", ALL, "from " + kind + " " + first + " 1 0 0", Bound.FALSE);
                Bound.refused("3: first, nothing begun", TABLES, "from " + kind + " " + first + " 1 0 0", Bound.FALSE);
            }
        }
    }

    /** Promise 3: ... or, if it is a join, second isn't a table or left or right isn't 0 or 1. */
    private static void fromSecondLeftRight() {
        for (int kind = 1; kind <= 2; kind++) {
            String from = "from " + kind + " 0 ";
            Bound.taken("3: second 0, both x", ALL, from + "0 0 0", Bound.TRUE);
            Bound.taken("3: second 2, both y", ALL, from + "2 1 1", Bound.TRUE);
            for (String second : new String[] {"-1", "3", "min", "max"}) {
                Bound.refused("3: second", ALL, from + second + " 0 0", Bound.FALSE);
            }
            for (String column : new String[] {"-1", "2", "min", "max"}) {
                Bound.refused("3: left", ALL, from + "1 " + column + " 0", Bound.FALSE);
                Bound.refused("3: right", ALL, from + "1 0 " + column, Bound.FALSE);
                Bound.refused("3: right, nothing begun", TABLES, from + "1 0 " + column, Bound.FALSE);
            }
        }
        Bound.rows("3: x of the first, y of the second", "row 0 1 2 0; row 1 3 1 0; from 1 0 1 0 1; output 1; start 1 3", "1");
        Bound.rows("3: y of the first, x of the second", "row 0 1 2 0; row 1 3 1 0; from 1 0 1 1 0; output 1; start 1 3", "0");
        Bound.rows("3: y of the first, x of the second", "row 0 1 3 0; row 1 3 2 0; from 1 0 1 1 0; output 1; start 1 3", "1");
        Bound.rows("3: y of both", "row 0 1 3 0; row 1 2 3 0; from 1 0 1 1 1; output 1; start 1 3", "1");
        Bound.rows("3: x of both", "row 0 1 3 0; row 1 1 2 0; from 1 0 1 0 0; output 1; start 1 3", "1");
    }

    /** Promise 4: false, changing nothing: c isn't 0 .. 3 (0 .. 1 over one table). */
    private static void columnTooFar() {
        for (String from : new String[] {INNER, OUTER}) {
            for (int c = 0; c <= 3; c++) {
                Bound.taken("4: of a join", from, "column " + c, Bound.TRUE);
            }
            Bound.refused("4: of a join", from + "number 5", "column 4", Bound.FALSE);
            Bound.refused("4: of a join", from + "number 5", "column -1", Bound.FALSE);
        }
        Bound.taken("4: of one table", ALONE, "column 0", Bound.TRUE);
        Bound.taken("4: of one table", ALONE, "column 1", Bound.TRUE);
        for (String c : new String[] {"-1", "2", "3", "4", "min", "max"}) {
            Bound.refused("4: of one table", ALL, "column " + c, Bound.FALSE);
        }
    }

    /** Promise 4: false, changing nothing: a job is on, no query was begun. */
    private static void columnNotNow() {
        Bound.refused("4: a job is on", ON, "column 0", Bound.FALSE);
        Bound.taken("4: it has ended", ENDED, "column 3", Bound.TRUE);
        Bound.refused("4: no query", TABLES, "column 0", Bound.FALSE);
    }

    /** Promise 4: false, changing nothing: 8 are there. */
    private static void columnStackFull() {
        Bound.taken("4: 7 are there", INNER + "7* column 2", "column 3", Bound.TRUE);
        Bound.refused("4: 8 are there", INNER + "8* column 2", "column 3", Bound.FALSE);
    }

    /** Promise 5: Puts a number on the stack (any int). */
    private static void numberEnds() {
        Bound.rows("5: the least", "row 0 1 1 0; from 0 0 0 0 0; number min; output 0; start 1 3", "-2147483648");
        Bound.rows("5: the greatest", "row 0 1 1 0; from 0 0 0 0 0; number max; output 0; start 1 3", "2147483647");
        Bound.rows("5: 0 and -1", "row 0 1 1 0; from 0 0 0 0 0; number 0; output 0; number -1; output 0; start 1 3", "0,-1");
    }

    /** Promise 5: false, changing nothing: a job is on, no query was begun. */
    private static void numberNotNow() {
        Bound.refused("5: a job is on", ON, "number 0", Bound.FALSE);
        Bound.taken("5: it has ended", ENDED, "number 0", Bound.TRUE);
        Bound.refused("5: no query", TABLES, "number 0", Bound.FALSE);
    }

    /** Promise 5: false, changing nothing: 8 are there. */
    private static void numberStackFull() {
        Bound.taken("5: 7 are there", INNER + "7* number 2", "number 3", Bound.TRUE);
        Bound.refused("5: 8 are there", INNER + "8* number 2", "number 3", Bound.FALSE);
        Bound.refused("5: 8 are there, a truth on top", INNER + "8* number 2; operate 9", "number 3", Bound.FALSE);
    }

    /** Promise 6: false, changing nothing: op isn't 0 .. 9. */
    private static void operateOutOfRange() {
        Bound.taken("6: op 0", ALONE + "put 1 2", "operate 0", Bound.TRUE);
        Bound.taken("6: op 9", ALONE + "put 1 2", "operate 9", Bound.TRUE);
        for (String op : new String[] {"-1", "10", "11", "12", "min", "max"}) {
            Bound.refused("6: op, over numbers", ALONE + "put 1 2", "operate " + op, Bound.FALSE);
            Bound.refused("6: op, over truths", ALONE + "put c0 null c1 null", "operate " + op, Bound.FALSE);
            Bound.refused("6: op, over nothing", ALONE, "operate " + op, Bound.FALSE);
        }
    }

    /** Promise 6: false, changing nothing: a job is on, no query was begun. */
    private static void operateNotNow() {
        for (int op = 0; op <= 9; op++) {
            Bound.refused("6: a job is on", ON, "operate " + op, Bound.FALSE);
            Bound.refused("6: no query", TABLES, "operate " + op, Bound.FALSE);
        }
        Bound.taken("6: it has ended", ENDED + "; put 1 2", "operate 3", Bound.TRUE);
    }

    /** Promise 6: false, changing nothing: on top there aren't such expressions as it needs (there are too few). */
    private static void operateTooFew() {
        for (int op = 0; op <= 9; op++) {
            boolean truths = op >= 6 && op <= 8;
            String one = truths ? "put c0 null" : "put 3";
            Bound.refused("6: nothing is there", ALONE, "operate " + op, Bound.FALSE);
            if (op < 8) {
                Bound.refused("6: one is there", ALONE + one, "operate " + op, Bound.FALSE);
                Bound.taken("6: two are there", ALONE + one + "; " + one, "operate " + op, Bound.TRUE);
            } else {
                Bound.taken("6: one is there", ALONE + one, "operate " + op, Bound.TRUE);
            }
        }
    }

    /** Promise 6: false, changing nothing: on top there aren't such expressions as it needs (of another kind). */
    private static void operateWrongKinds() {
        String number = "put c0";
        String truth = "put c1 null";
        for (int op = 0; op <= 9; op++) {
            boolean truths = op >= 6 && op <= 8;
            String fits = truths ? truth : number;
            String other = truths ? number : truth;
            String call = "operate " + op;
            Bound.refused("6: both of another kind", ALONE + other + "; " + other, call, Bound.FALSE);
            Bound.refused("6: the top of another kind", ALONE + fits + "; " + other, call, Bound.FALSE);
            if (op < 8) {
                Bound.refused("6: the one below of another kind", ALONE + other + "; " + fits, call, Bound.FALSE);
            } else {
                Bound.taken("6: the one below doesn't count", ALONE + other + "; " + fits, call, Bound.TRUE);
            }
            Bound.taken("6: what lies deeper doesn't count", ALONE + other + "; " + fits + "; " + fits, call, Bound.TRUE);
        }
    }

    private static String sum(int columns) {
        return "put c0" + " c0 +".repeat(columns - 1);
    }

    /** Promise 6: false, changing nothing: the new one would have more than 24 parts. */
    private static void operateTooManyParts() {
        Bound.taken("6: 23 parts and IS NULL", ALONE + sum(12), "operate 9", Bound.TRUE);
        Bound.refused("6: 24 parts and NOT", ALONE + sum(12) + " null", "operate 8", Bound.FALSE);
        Bound.taken("6: 22 parts and NOT twice", ALONE + sum(11) + " null not", "operate 8", Bound.TRUE);
        for (int op = 0; op <= 5; op++) {
            Bound.taken("6: 11 and 11 and 1 parts", ALONE + sum(6) + "; " + sum(6), "operate " + op, Bound.TRUE);
            Bound.refused("6: 11 and 13 and 1 parts", ALONE + sum(6) + "; " + sum(7), "operate " + op, Bound.FALSE);
        }
        for (int op = 6; op <= 7; op++) {
            Bound.taken("6: 12 and 11 and 1 parts", ALONE + sum(6) + " null; " + sum(5) + " null not", "operate " + op, Bound.TRUE);
            Bound.refused("6: 12 and 12 and 1 parts", ALONE + sum(6) + " null; " + sum(6) + " null", "operate " + op, Bound.FALSE);
        }
        Bound.refused("6: the most of both", ALONE + sum(12) + "; " + sum(12), "operate 0", Bound.FALSE);
    }

    /** Promise 7: false, changing nothing: a job is on, no query was begun. */
    private static void whereNotNow() {
        Bound.refused("7: a job is on", ON, "where", Bound.FALSE);
        Bound.refused("7: no query", TABLES, "where", Bound.FALSE);
        Bound.taken("7: it has ended", ENDED + "; put c1 20 =", "where", Bound.TRUE);
    }

    /** Promise 7: false, changing nothing: there isn't exactly one. */
    private static void whereNotExactlyOne() {
        Bound.refused("7: none", ALONE, "where", Bound.FALSE);
        Bound.taken("7: one", ALONE + "put c0 2 =", "where", Bound.TRUE);
        Bound.refused("7: two truths", ALONE + "put c0 2 = c0 3 =", "where", Bound.FALSE);
        Bound.refused("7: a truth over a number", ALONE + "put 4 c0 2 =", "where", Bound.FALSE);
        Bound.refused("7: eight truths", ALONE + "8* put c0 null", "where", Bound.FALSE);
        Bound.refused("7: it was taken off", ALONE + "put c0 2 =; where", "where", Bound.FALSE);
    }

    /** Promise 7: false, changing nothing: it is no truth. */
    private static void whereNoTruth() {
        Bound.refused("7: a number", ALONE + "number 1", "where", Bound.FALSE);
        Bound.refused("7: a column", ALONE + "column 1", "where", Bound.FALSE);
        for (int op = 0; op <= 3; op++) {
            Bound.refused("7: arithmetic", ALONE + "put c0 c1; operate " + op, "where", Bound.FALSE);
        }
        for (int op = 4; op <= 5; op++) {
            Bound.taken("7: a comparison", ALONE + "put c0; output 0; put c0 c1; operate " + op, "where", Bound.TRUE);
        }
        Bound.taken("7: IS NULL", ALONE + "put c0; output 0; put c1 null", "where", Bound.TRUE);
    }

    /** Promise 7: false, changing nothing: 6 conditions are there. */
    private static void whereFull() {
        String five = "put c0; output 0; " + conditions(5);
        Bound.taken("7: five are there", ALONE + five + "put c0 2 =", "where", Bound.TRUE);
        Bound.refused("7: six are there", ALONE + five + "put 1 1 =; where; put c0 2 =", "where", Bound.FALSE);
        Bound.refused("7: six are there, two on the stack", ALONE + five + "put 1 1 =; where; put c0 2 = 5", "where", Bound.FALSE);
    }

    /** Promise 8: False, changing nothing: a job is on, no query was begun. */
    private static void outputNotNow() {
        for (int kind = 0; kind <= 5; kind++) {
            Bound.refused("8: a job is on", ON, "output " + kind, Bound.FALSE);
            Bound.refused("8: no query", TABLES, "output " + kind, Bound.FALSE);
        }
        Bound.taken("8: it has ended", ENDED, "output 1", Bound.TRUE);
    }

    /** Promise 8: False, changing nothing: kind isn't 0 .. 5. */
    private static void outputKind() {
        Bound.taken("8: kind 0", ALONE + "number 3", "output 0", Bound.TRUE);
        Bound.taken("8: kind 5", ALONE + "number 3", "output 5", Bound.TRUE);
        for (String kind : new String[] {"-1", "6", "min", "max"}) {
            Bound.refused("8: kind", ALONE + "number 3", "output " + kind, Bound.FALSE);
            Bound.refused("8: kind, empty stack", ALONE, "output " + kind, Bound.FALSE);
        }
    }

    /** Promise 8: ... of the one expression on the stack, a number; kind 1: the stack must be empty. False: the stack isn't so. */
    private static void outputStack() {
        Bound.taken("8: kind 1, empty", ALONE, "output 1", Bound.TRUE);
        Bound.refused("8: kind 1, a number", ALONE + "number 3", "output 1", Bound.FALSE);
        Bound.refused("8: kind 1, a truth", ALONE + "put c0 null", "output 1", Bound.FALSE);
        Bound.refused("8: kind 1, eight", ALONE + "8* number 3", "output 1", Bound.FALSE);
        for (int kind : new int[] {0, 2, 3, 4, 5}) {
            String call = "output " + kind;
            Bound.refused("8: empty", ALONE, call, Bound.FALSE);
            Bound.taken("8: a number", ALONE + "number 3", call, Bound.TRUE);
            Bound.refused("8: a truth", ALONE + "put c0 null", call, Bound.FALSE);
            Bound.refused("8: two numbers", ALONE + "put 3 4", call, Bound.FALSE);
            Bound.refused("8: a number over a truth", ALONE + "put c0 null 4", call, Bound.FALSE);
            Bound.due("8: it was taken off", ALONE + "number 3; " + call, "operate 9", Bound.FALSE);
        }
    }

    /** Promise 8: False, changing nothing: 3 outputs are there. */
    private static void outputFull() {
        for (int kind = 0; kind <= 5; kind++) {
            String expression = kind == 1 ? "" : "; put c1";
            Bound.taken("8: two are there", ALONE + "put c0; output 0; output 1" + expression, "output " + kind, Bound.TRUE);
            Bound.refused("8: three are there", ALONE + "put c0; output 0; output 1; output 1" + expression, "output " + kind, Bound.FALSE);
        }
    }

    /** Promise 9: false, changing nothing: c isn't 0 .. 3 (0 .. 1 over one table). */
    private static void groupColumn() {
        for (String from : new String[] {INNER, OUTER}) {
            for (int c = 0; c <= 3; c++) {
                Bound.taken("9: of a join", from + "output 1", "group " + c, Bound.TRUE);
            }
            for (String c : new String[] {"-1", "4", "min", "max"}) {
                Bound.refused("9: of a join", from + "output 1", "group " + c, Bound.FALSE);
                Bound.refused("9: another stays", from + "output 1; group 3", "group " + c, Bound.FALSE);
            }
        }
        for (int c = 0; c <= 1; c++) {
            Bound.taken("9: of one table", ALONE + "output 1", "group " + c, Bound.TRUE);
        }
        for (String c : new String[] {"-1", "2", "3", "4", "min", "max"}) {
            Bound.refused("9: of one table", ALONE + "output 1", "group " + c, Bound.FALSE);
            Bound.refused("9: another stays", ALL, "group " + c, Bound.FALSE);
        }
    }

    /** Promise 9: Column c becomes the group column (instead of another one). */
    private static void groupInsteadOfAnother() {
        Bound.rows("9: the first", ALONE + "group 0; start 1 3", "1 2 3");
        Bound.rows("9: the later one", ALONE + "group 0; group 1; start 1 3", "- 10 20");
        Bound.rows("9: and back", ALONE + "group 0; group 1; group 0; start 1 3", "1 2 3");
    }

    /** Promise 9: false, changing nothing: a job is on, no query was begun. */
    private static void groupNotNow() {
        Bound.refused("9: a job is on", ON, "group 0", Bound.FALSE);
        Bound.refused("9: a job with a group is on", ALONE + "group 0; start 1 3", "group 1", Bound.FALSE);
        Bound.refused("9: no query", TABLES, "group 0", Bound.FALSE);
        Bound.taken("9: it has ended", ENDED, "group 0", Bound.TRUE);
    }

    /** Promise 10: False, changing nothing: column isn't 0 .. 3. */
    private static void orderColumn() {
        String rows = "row 0 1 3 0; row 0 2 1 0; row 0 3 2 0; from 0 0 0 0 0; put c0; output 0; put c1; output 0; ";
        Bound.taken("10: column 0", rows, "order 0 down 2", Bound.TRUE);
        Bound.taken("10: column 3", rows, "order 3 down 2", Bound.TRUE);
        for (String column : new String[] {"-1", "4", "min", "max"}) {
            Bound.refused("10: column", rows, "order " + column + " down 1", Bound.FALSE);
            Bound.refused("10: another stays", rows + "order 1 down 2", "order " + column + " up 1", Bound.FALSE);
        }
    }

    /** Promise 10: a limit (below 0: none; 0: no row counts). */
    private static void orderLimit() {
        String rows = "row 0 1 3 0; row 0 2 1 0; row 0 3 2 0; from 0 0 0 0 0; put c0; output 0; ";
        Bound.rows("10: limit -1", rows + "order 0 up -1; start 1 3", "1 2 3");
        Bound.rows("10: limit min", rows + "order 0 up min; start 1 3", "1 2 3");
        Bound.rows("10: limit 0", rows + "order 0 up 0; start 1 3", "");
        Bound.rows("10: limit 1", rows + "order 0 up 1; start 1 3", "1");
        Bound.rows("10: limit 3", rows + "order 0 up 3; start 1 3", "1 2 3");
        Bound.rows("10: limit max", rows + "order 0 up max; start 1 3", "1 2 3");
        Bound.rows("10: a later one", rows + "order 0 up 0; order 0 up -1; start 1 3", "1 2 3");
    }

    /** Promise 10: (A column that the result hasn't counts as column 0 when the job starts.) */
    private static void orderColumnThatIsNotThere() {
        String rows = "row 0 1 3 0; row 0 2 1 0; row 0 3 2 0; from 0 0 0 0 0; put c0; output 0; put c1; output 0; ";
        Bound.rows("10: the last that is there", rows + "order 1 up -1; start 1 3", "2,1 3,2 1,3");
        Bound.rows("10: the first that isn't", rows + "order 2 up -1; start 1 3", "1,3 2,1 3,2");
        Bound.rows("10: the first that isn't, down", rows + "order 2 down -1; start 1 3", "3,2 2,1 1,3");
        Bound.rows("10: column 3", rows + "order 3 down 2; start 1 3", "3,2 2,1");
        Bound.rows("10: it is there when the job starts", rows + "order 2 up -1; put 0 c1 -; output 0; start 1 3",
            "1,3,-3 3,2,-2 2,1,-1");
        String group = "row 0 1 3 0; row 0 1 3 0; row 0 2 1 0; from 0 0 0 0 0; group 1; ";
        Bound.rows("10: the group column alone", group + "order 1 down -1; start 1 3", "3 1");
        Bound.rows("10: column 1 behind the group", group + "output 1; order 1 down -1; start 1 3", "3,2 1,1");
        Bound.rows("10: column 3 behind the group", group + "output 1; output 1; put c0; output 3; order 3 up -1; start 1 3",
            "1,1,1,2 3,2,2,2");
        Bound.rows("10: column 3 behind the group, other numbers", group + "output 1; output 1; put 0 c1 -; output 4; order 3 up -1; start 1 3",
            "3,2,2,-3 1,1,1,-1");
    }

    /** Promise 10: False, changing nothing: a job is on, no query was begun. */
    private static void orderNotNow() {
        Bound.refused("10: a job is on", ON, "order 0 down 0", Bound.FALSE);
        Bound.refused("10: no query", TABLES, "order 0 down 0", Bound.FALSE);
        Bound.taken("10: it has ended", ENDED, "order 0 down 0", Bound.TRUE);
    }
}
