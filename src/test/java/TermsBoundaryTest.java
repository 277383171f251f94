/** The limits that the document's "Terms" name: each test is of one sentence, which stands above it. */
public final class TermsBoundaryTest {
    private static final String ALONE = "from 0 0 0 0 0; ";
    // As expressions: the least and the greatest long.
    private static final String LEAST = "1073741824 1073741824 * -8 *";
    private static final String GREATEST = "-1 " + LEAST + " -";
    private static final String LEAST_LONG = "-9223372036854775808";
    private static final String GREATEST_LONG = "9223372036854775807";

    private TermsBoundaryTest() {
    }

    public static void main(String[] args) {
        atMost512Calls();
        tablesOfTwelveRows();
        rowsNumberedFromZero();
        valuesOfATable();
        pairsOfJoinColumns();
        outerJoinRows();
        joinedRowsOfOneTable();
        stackOfEight();
        expressionOf24Parts();
        sumsAndDifferencesThatAreNoLong();
        productsThatAreNoLong();
        quotients();
        operationsOfNull();
        comparisons();
        truthsOfTruths();
        isNull();
        sixConditions();
        threeOutputs();
        keptRows();
        aggregatesOfNoNumber();
        addedUpExactly();
        wholeQueries();
        resultRowsOfGroups();
        resultRowWithoutGroup();
        orderAndNull();
        orderOfRowsAlike();
        limitOfRows();
        tasksOfWorkers();
        partsOfValues();
        conditionsPushedToTheFirst();
        conditionsPushedToTheSecond();
        rowsOfJoins();
        rowsOfGroupings();
        readyJoins();
        readyGroupings();
        workerOfAnAttempt();
        queueOfTwelve();
        endOfTheJob();
        Check.end();
    }

    /** An object is used for at most 512 calls after it has been made. */
    private static void atMost512Calls() {
        String five = "row 0 1 10 0; from 0 0 0 0 0; number 7; output 0; start 1 3; ";
        Check.due("call 512, after 506 ticks", Script.state(five + "506* tick").message(-1, 0), 60);
        QueryFleet x = Script.state(five + "504* tick; pass 59 0; work 0");
        Check.due("call 512 ends the job", x.pass(59, 0), 1);
        QueryFleet y = Script.state(five + "pass 0 0; work 0; pass 0 0; 503* cell 0 0");
        Check.due("call 512, after 503 looks", y.cell(0, 0), 7);
        QueryFleet z = Script.state(five + "3* tick; pass 0 1; ".repeat(126) + "2* tick");
        Check.due("call 512, the attempts", z.task(0, 2), 127);
    }

    /** TABLES 0, 1, 2 have two columns x and y and at most 12 rows each. */
    private static void tablesOfTwelveRows() {
        for (int table = 0; table <= 2; table++) {
            String row = "row " + table + " 1 2 0";
            Bound.taken("the 12th row", "11* " + row, row, 12);
            Bound.refused("the 13th row", "12* " + row, row, Bound.FULL);
            for (int other = 0; other <= 2; other++) {
                if (other != table) {
                    Bound.taken("each table has its own rows", "12* " + row, "row " + other + " 1 2 0", 1);
                }
            }
        }
        Bound.rows("all 12 are there", "12* row 2 1 2 0; from 0 2 0 0 0; output 1; start 4 3", "12");
    }

    /** ... rows each, numbered from 0. (A scan has the rows whose number has its part.) */
    private static void rowsNumberedFromZero() {
        String rows = "row 0 10 0 0; row 0 11 0 0; row 0 12 0 0; row 0 13 0 0; row 0 14 0 0; " + ALONE;
        String end = "put c0; output 0; start 4 3";
        Bound.taskRows("the first row has number 0", "row 0 9 9 0; " + ALONE + end, 1, 0, 0, 0);
        Bound.taskRows("rows 0 to 4", rows + end, 2, 1, 1, 1);
        Bound.taskRows("row 3", rows + "put c0 13 =; where; " + end, 0, 0, 0, 1);
        Bound.taskRows("row 4", rows + "put c0 14 =; where; " + end, 1, 0, 0, 0);
        Bound.taskRows("row 11", "11* row 0 1 1 0; row 0 2 2 0; " + ALONE + "put c0 2 =; where; " + end, 0, 0, 0, 1);
    }

    /** A VALUE is a long or NULL; in a table it is an int or NULL. */
    private static void valuesOfATable() {
        String rows = "row 0 min max 0; row 0 max min 0; row 0 0 0 3; " + ALONE;
        Bound.rows("the ends of int", rows + "put c0; output 0; put c1; output 0; start 1 3",
            "-,- -2147483648,2147483647 2147483647,-2147483648");
        Bound.rows("a sum beyond int", rows + "put c0 c0 +; output 0; start 1 3", "- -4294967296 4294967294");
        Bound.rows("a difference beyond int", rows + "put c0 c1 -; output 0; start 1 3", "- -4294967295 4294967295");
        Bound.rows("a product beyond int", rows + "put c0 c0 *; output 0; start 1 3",
            "- 4611686014132420609 4611686018427387904");
        Bound.rows("a quotient beyond int", rows + "put c0 -1 /; output 0; start 1 3", "- -2147483647 2147483648");
    }

    /** The JOINED rows: one for each pair of rows whose join columns are both not NULL and equal. */
    private static void pairsOfJoinColumns() {
        for (int kind = 1; kind <= 2; kind++) {
            String from = "; from " + kind + " 0 1 0 0; output 1; start 2 3";
            Bound.rows("12 times 12 pairs", "12* row 0 5 1 0; 12* row 1 5 2 0" + from, "144");
            Bound.rows("the ends of int", "row 0 min 1 0; row 0 max 1 0; row 1 min 1 0; row 1 max 1 0" + from, "2");
        }
        String from = "; from 1 0 1 0 0; output 1; start 2 3";
        Bound.rows("NULL of the first", "row 0 0 1 1; row 1 0 1 0" + from, "0");
        Bound.rows("NULL of the second", "row 0 0 1 0; row 1 0 1 1" + from, "0");
        Bound.rows("NULL of both", "row 0 0 1 1; row 1 0 1 1" + from, "0");
        Bound.rows("NULL beside them doesn't matter", "row 0 0 1 2; row 1 0 1 2" + from, "1");
        Bound.rows("unequal by one", "row 0 0 1 0; row 1 1 1 0" + from, "0");
        Bound.rows("an empty first table", "12* row 1 1 1 0" + from, "0");
        Bound.rows("an empty second table", "12* row 0 1 1 0" + from, "0");
    }

    /** ... with an outer join also one, with NULL in columns 2 and 3, for each row of the first table that is in no such pair. */
    private static void outerJoinRows() {
        String from = "; from 2 0 1 0 0; put c1; output 0; put c2; output 0; put c3; output 0; start 3 3";
        Bound.rows("an empty second table", "row 0 5 1 0; row 0 5 2 0" + from, "1,-,- 2,-,-");
        Bound.rows("an empty first table", "row 1 5 1 0" + from, "");
        Bound.rows("NULL is in no pair", "row 0 0 1 1; row 1 0 3 1" + from, "1,-,-");
        Bound.rows("a row in one pair", "row 0 5 1 0; row 1 5 3 0" + from, "1,5,3");
        Bound.rows("a row in two pairs", "row 0 5 1 0; row 1 5 3 0; row 1 5 4 0" + from, "1,5,3 1,5,4");
        Bound.rows("rows of the second in no pair don't come", "row 0 5 1 0; row 1 6 3 0; row 1 7 3 0" + from, "1,-,-");
        String crossed = "row 0 1 2 0; row 1 2 1 0; from 2 0 1 ";
        Bound.rows("x and x", crossed + "0 0; put c3; output 0; start 2 3", "-");
        Bound.rows("x and y", crossed + "0 1; put c2; output 0; start 2 3", "2");
        Bound.rows("y and x", crossed + "1 0; put c3; output 0; start 2 3", "1");
        Bound.rows("y and y", crossed + "1 1; put c3; output 0; start 2 3", "-");
        String all = "; from 2 0 1 0 0; output 1; put c2; output 2; start 4 3";
        Bound.rows("12 rows in no pair", "12* row 0 5 1 0; 12* row 1 6 1 0" + all, "12,0");
    }

    /** Over one table the joined rows are its rows. */
    private static void joinedRowsOfOneTable() {
        Bound.rows("none", ALONE + "output 1; start 1 3", "0");
        Bound.rows("one", "row 0 1 1 3; " + ALONE + "output 1; start 1 3", "1");
        Bound.rows("twelve alike", "12* row 0 1 1 3; " + ALONE + "output 1; start 1 3", "12");
    }

    /** EXPRESSIONS are made on a STACK (of at most 8). */
    private static void stackOfEight() {
        String row = "row 0 2 3 0; " + ALONE;
        for (String call : new String[] {"number 3", "column 1"}) {
            Bound.taken("the eighth", row + "7* number 1", call, Bound.TRUE);
            Bound.refused("the ninth", row + "8* number 1", call, Bound.FALSE);
            Bound.refused("the ninth over columns", row + "8* column 0", call, Bound.FALSE);
            Bound.taken("an operation of two makes room", row + "8* number 1; operate 0", call, Bound.TRUE);
            Bound.refused("an operation of one doesn't", row + "8* number 1; operate 9", call, Bound.FALSE);
        }
        Bound.rows("eight at once are worked out", row + "4* column 0; 4* column 1; 7* operate 2; output 0; start 1 3", "1296");
    }

    /** So many columns 0 added up: 2 * columns - 1 parts. */
    private static String sum(int columns) {
        return "put c0" + " c0 +".repeat(columns - 1);
    }

    /** One has at most 24 PARTS (columns, numbers and operations). */
    private static void expressionOf24Parts() {
        String row = "row 0 2 3 0; " + ALONE;
        Bound.taken("24 parts by an operation of one", row + sum(12), "operate 9", Bound.TRUE);
        Bound.refused("25 parts by an operation of one", row + sum(12) + " null", "operate 8", Bound.FALSE);
        Bound.taken("20 and 3 and 1 parts", row + sum(10) + " null 1 1 =", "operate 7", Bound.TRUE);
        Bound.refused("21 and 3 and 1 parts", row + sum(10) + " null not 1 1 =", "operate 7", Bound.FALSE);
        Bound.taken("21 and 1 and 1 parts", row + sum(11) + " 1", "operate 0", Bound.TRUE);
        Bound.refused("23 and 1 and 1 parts", row + sum(12) + " 1", "operate 0", Bound.FALSE);
        Bound.refused("1 and 23 and 1 parts", row + "number 1; " + sum(12), "operate 0", Bound.FALSE);
        Bound.refused("24 and 2 and 1 parts", row + sum(12) + " null 1 null", "operate 6", Bound.FALSE);
        Bound.rows("23 parts are worked out", row + sum(12) + "; output 0; start 1 3", "24");
        Bound.rows("24 parts are worked out", row + sum(10) + " null 1 1 = or; where; put c1; output 0; start 1 3", "3");
        Bound.rows("24 parts are worked out", row + sum(10) + " null 1 1 = and; where; put c1; output 0; start 1 3", "");
    }

    /** The one row that the expression makes, over the row x = 7, y = NULL. */
    private static void dueValue(String expression, String want) {
        Bound.rows("its value", "row 0 7 0 2; " + ALONE + "put " + expression + "; output 0; start 1 3", want);
    }

    /** 0 p + q, 1 p - q: a number, NULL if it is no long. */
    private static void sumsAndDifferencesThatAreNoLong() {
        dueValue(LEAST, LEAST_LONG);
        dueValue(GREATEST, GREATEST_LONG);
        dueValue(GREATEST + " 0 +", GREATEST_LONG);
        dueValue(GREATEST + " 1 +", "-");
        dueValue("1 " + GREATEST + " +", "-");
        dueValue(GREATEST + " -1 + 1 +", GREATEST_LONG);
        dueValue(LEAST + " 0 +", LEAST_LONG);
        dueValue(LEAST + " -1 +", "-");
        dueValue("-1 " + LEAST + " +", "-");
        dueValue(LEAST + " 1 + -1 +", LEAST_LONG);
        dueValue(LEAST + " " + GREATEST + " +", "-1");
        dueValue(LEAST + " " + LEAST + " +", "-");
        dueValue(GREATEST + " " + GREATEST + " +", "-");
        dueValue(LEAST + " 0 -", LEAST_LONG);
        dueValue(LEAST + " 1 -", "-");
        dueValue(GREATEST + " -1 -", "-");
        dueValue("0 " + LEAST + " -", "-");
        dueValue("-1 " + LEAST + " -", GREATEST_LONG);
        dueValue("-1 " + GREATEST + " -", LEAST_LONG);
        dueValue("-2 " + GREATEST + " -", "-");
        dueValue(LEAST + " " + LEAST + " -", "0");
        dueValue(GREATEST + " " + LEAST + " -", "-");
        dueValue(LEAST + " " + GREATEST + " -", "-");
        // Every second bit is set: then all bits of the sum differ from those of both numbers.
        String bits = "1431655765 2147483647 2147483647 + 3 + *";
        dueValue(bits, "6148914691236517205");
        dueValue(bits + " " + bits + " +", "-");
        dueValue("-1 " + bits + " - " + bits + " -", "-");
    }

    /** 2 p * q: a number, NULL if it is no long. */
    private static void productsThatAreNoLong() {
        dueValue(LEAST + " 1 *", LEAST_LONG);
        dueValue(LEAST + " -1 *", "-");
        dueValue("-1 " + LEAST + " *", "-");
        dueValue(LEAST + " 2 *", "-");
        dueValue(LEAST + " 0 *", "0");
        dueValue("0 " + LEAST + " *", "0");
        dueValue(GREATEST + " -1 *", "-9223372036854775807");
        dueValue(GREATEST + " 2 *", "-");
        dueValue(GREATEST + " " + GREATEST + " *", "-");
        dueValue(LEAST + " " + LEAST + " *", "-");
        // 3037000499 ^ 2 is below 2 ^ 63, 3037000500 ^ 2 is not.
        dueValue("2147483647 889516852 + 2147483647 889516852 + *", "9223372030926249001");
        dueValue("2147483647 889516853 + 2147483647 889516853 + *", "-");
        // 7 * 7 * 73 * 127 * 337 * 92737 * 649657 is 2 ^ 63 - 1.
        dueValue("153092023 92737 * 649657 *", GREATEST_LONG);
        dueValue("153092023 92737 * 649658 *", "-");
        dueValue("-2147483648 -2147483648 * 2 *", "-");
        dueValue("-2147483648 -2147483648 * -2 *", LEAST_LONG);
        dueValue("-2147483648 -2147483648 * -2 * 4 *", "-");
        dueValue("1073741824 1073741824 * 16 *", "-");
    }

    /** 3 p / q (towards 0): a number, NULL if q is 0 for 3, or it is no long. */
    private static void quotients() {
        dueValue("7 0 /", "-");
        dueValue("0 0 /", "-");
        dueValue("7 1 1 - /", "-");
        dueValue(LEAST + " 0 /", "-");
        dueValue("0 7 /", "0");
        dueValue(LEAST + " -1 /", "-");
        dueValue(LEAST + " 1 /", LEAST_LONG);
        dueValue(LEAST + " 1 + -1 /", GREATEST_LONG);
        dueValue(GREATEST + " -1 /", "-9223372036854775807");
        dueValue(LEAST + " -2 /", "4611686018427387904");
        dueValue("6 7 /", "0");
        dueValue("-6 7 /", "0");
        dueValue("-7 7 /", "-1");
        dueValue("-13 7 /", "-1");
        dueValue("13 -7 /", "-1");
        dueValue("-13 -7 /", "1");
        dueValue("-14 7 /", "-2");
    }

    /** ... a number, NULL if p or q is NULL. */
    private static void operationsOfNull() {
        for (String op : new String[] {"+", "-", "*", "/"}) {
            dueValue("c1 1 " + op, "-");
            dueValue("1 c1 " + op, "-");
            dueValue("c1 c1 " + op, "-");
            dueValue("c1 0 " + op, "-");
            dueValue("0 c1 " + op, "-");
            dueValue("1 0 / 1 " + op, "-");
        }
    }

    /** FALSE, UNKNOWN or TRUE, as 0, 1, 2: UNKNOWN is what neither it nor its NOT keeps. */
    private static void dueTruth(String expression, int want) {
        String keeps = keptWith(expression);
        String denies = keptWith(expression + " not");
        Check.due("truth of " + expression, keeps.equals("1") ? 2 : denies.equals("1") ? 0 : 1, want);
    }

    private static String keptWith(String condition) {
        QueryFleet x = Script.state("row 0 7 0 2; " + ALONE + "put " + condition + "; where; output 1; start 1 3; finish");
        return Check.rows(x);
    }

    /** 4 p = q, 5 p < q (of numbers): a truth, UNKNOWN if p or q is NULL. */
    private static void comparisons() {
        for (String op : new String[] {"=", "<"}) {
            dueTruth("c1 7 " + op, 1);
            dueTruth("7 c1 " + op, 1);
            dueTruth("c1 c1 " + op, 1);
            dueTruth("1 0 / 1 " + op, 1);
            dueTruth(GREATEST + " 1 + 0 " + op, 1);
        }
        dueTruth("c0 7 =", 2);
        dueTruth("c0 6 =", 0);
        dueTruth("c0 8 =", 0);
        dueTruth("c0 8 <", 2);
        dueTruth("c0 7 <", 0);
        dueTruth("c0 6 <", 0);
        dueTruth("0 0 =", 2);
        dueTruth(LEAST + " " + GREATEST + " <", 2);
        dueTruth(GREATEST + " " + LEAST + " <", 0);
        dueTruth(LEAST + " " + LEAST + " =", 2);
        dueTruth(LEAST + " " + GREATEST + " =", 0);
        dueTruth("1073741824 4 * 0 =", 0);
        dueTruth("0 1073741824 4 * <", 2);
    }

    /** 6 p AND q, 7 p OR q, 8 NOT q (UNKNOWN of UNKNOWN): truths of truths. */
    private static void truthsOfTruths() {
        String[] truths = {"1 2 =", "c1 1 =", "1 1 ="};
        for (int p = 0; p <= 2; p++) {
            dueTruth(truths[p] + " not", 2 - p);
            dueTruth(truths[p] + " not not", p);
            for (int q = 0; q <= 2; q++) {
                dueTruth(truths[p] + " " + truths[q] + " and", Math.min(p, q));
                dueTruth(truths[p] + " " + truths[q] + " or", Math.max(p, q));
            }
        }
    }

    /** 9 q IS NULL, of a number: TRUE or FALSE. */
    private static void isNull() {
        dueTruth("c1 null", 2);
        dueTruth("c0 null", 0);
        dueTruth("0 null", 0);
        dueTruth("1 0 / null", 2);
        dueTruth(GREATEST + " null", 0);
        dueTruth(GREATEST + " 1 + null", 2);
    }

    /** A query has up to 6 CONDITIONS (truths). */
    private static void sixConditions() {
        String row = "row 0 1 1 0; row 0 2 2 0; " + ALONE + "put c0; output 0; ";
        String five = "put 1 1 =; where; put 2 2 =; where; put 3 3 =; where; put 4 4 =; where; put 5 5 =; where; ";
        Bound.taken("the sixth", row + five + "put c0 2 =", "where", Bound.TRUE);
        Bound.refused("the seventh", row + five + "put 6 6 =; where; put c0 2 =", "where", Bound.FALSE);
        Bound.rows("the sixth counts", row + five + "put c0 2 =; where; start 1 3", "2");
        Bound.rows("the first counts beside six", row + "put c0 2 =; where; " + five + "start 1 3", "2");
        Bound.rows("none keeps all", row + "start 1 3", "1 2");
    }

    /** ... up to 3 OUTPUTS. */
    private static void threeOutputs() {
        String row = "row 0 1 5 0; " + ALONE;
        Bound.taken("the third", row + "put c0; output 0; put c1; output 0; put 9", "output 0", Bound.TRUE);
        Bound.refused("the fourth", row + "put c0; output 0; put c1; output 0; put 9; output 0; put 8", "output 0", Bound.FALSE);
        Bound.taken("the third, how many rows", row + "output 1; output 1", "output 1", Bound.TRUE);
        Bound.refused("the fourth, how many rows", row + "output 1; output 1; output 1", "output 1", Bound.FALSE);
        Bound.rows("three are there", row + "put c0; output 0; put c1; output 0; put 9; output 0; start 1 3", "1,5,9");
        Bound.rows("three beside the group", row + "output 1; put c1; output 3; put c0; output 4; group 1; start 1 3", "5,1,5,1");
    }

    /** The KEPT rows are the joined rows for which all conditions are TRUE. */
    private static void keptRows() {
        String rows = "row 0 1 0 0; row 0 2 0 2; row 0 3 1 0; " + ALONE + "put c0; output 0; ";
        Bound.rows("UNKNOWN is not TRUE", rows + "put c1 1 =; where; start 1 3", "3");
        Bound.rows("nor is its NOT", rows + "put c1 1 = not; where; start 1 3", "1");
        Bound.rows("all, not one", rows + "put c1 1 =; where; put c0 3 <; where; start 1 3", "");
        Bound.rows("both of two", rows + "put c1 1 =; where; put c0 4 <; where; start 1 3", "3");
        Bound.rows("no row", ALONE + "put c0; output 0; start 1 3", "");
    }

    /** 1 how many rows, 2 of how many its number is not NULL, ... (3, 4, 5: NULL if there are none). */
    private static void aggregatesOfNoNumber() {
        String[] rows = {"", "row 0 0 0 2; row 0 0 0 2; ", "row 0 0 0 2; row 0 0 0 0; ", "row 0 0 -4 0; row 0 0 -2 0; "};
        String[] counts = {"0,0,-", "2,0,-", "2,1,0", "2,2,-6"};
        String[] ends = {"-,-", "-,-", "0,0", "-4,-2"};
        for (int i = 0; i < rows.length; i++) {
            Bound.rows("how many, sum", rows[i] + ALONE + "output 1; put c1; output 2; put c1; output 3; start 2 3", counts[i]);
            Bound.rows("least, greatest", rows[i] + ALONE + "put c1; output 4; put c1; output 5; start 2 3", ends[i]);
        }
        String groups = "row 0 1 5 0; row 0 1 6 0; row 0 2 0 2; row 0 3 7 0; " + ALONE + "group 0; ";
        Bound.rows("a group without numbers between others", groups + "put c1; output 2; put c1; output 3; put c1; output 4; start 2 3",
            "1,2,11,5 2,0,-,- 3,1,7,7");
        Bound.rows("the greatest", groups + "put c1; output 5; output 1; start 2 3", "1,6,2 2,-,1 3,7,1");
        String row = "row 0 0 0 0; " + ALONE;
        Bound.rows("least, greatest of the ends", row + "put " + LEAST + "; output 5; put " + GREATEST + "; output 4; start 1 3",
            LEAST_LONG + "," + GREATEST_LONG);
    }

    /** ... 3 also if it is no long: it is added up exactly. */
    private static void addedUpExactly() {
        String two = "row 0 0 0 0; row 0 1 0 0; " + ALONE;
        // The row x = 0 gives the greatest or the least long, the row x = 1 what is added to it.
        Bound.rows("the greatest", two + "put " + GREATEST + " 1 c0 - *; output 3; start 1 3", GREATEST_LONG);
        Bound.rows("one more", two + "put " + GREATEST + " 1 c0 - * c0 +; output 3; start 1 3", "-");
        Bound.rows("the least", two + "put " + LEAST + " 1 c0 - *; output 3; start 1 3", LEAST_LONG);
        Bound.rows("one less", two + "put " + LEAST + " 1 c0 - * c0 -; output 3; start 1 3", "-");
        String back = "row 0 1 0 0; row 0 1 0 0; row 0 -1 0 0; " + ALONE;
        Bound.rows("beyond and back", back + "put " + GREATEST + " c0 *; output 3; start 1 3", GREATEST_LONG);
        String below = "row 0 -1 0 0; row 0 -1 0 0; row 0 1 0 0; " + ALONE;
        Bound.rows("below and back", below + "put " + GREATEST + " c0 *; output 3; start 1 3", "-9223372036854775807");
        String most = "12* row 0 0 0 0; 12* row 1 0 0 0; from 1 0 1 0 0; ";
        Bound.rows("144 times the greatest", most + "put " + GREATEST + "; output 3; start 1 3", "-");
        Bound.rows("144 times the least", most + "put " + LEAST + "; output 3; start 1 3", "-");
        Bound.rows("144 times what fits", most + "put " + GREATEST + " 144 /; output 3; start 1 3", "9223372036854775728");
    }

    /** A query is WHOLE if its outputs are all plain, at least one, without a group; or all aggregates, at least one or a group. */
    private static void wholeQueries() {
        String row = "row 0 1 5 0; " + ALONE;
        Bound.refused("nothing", row, "start 1 3", Bound.NONE);
        Bound.taken("one plain", row + "put c0; output 0", "start 1 3", 1);
        Bound.taken("three plain", row + "put c0; output 0; put c0; output 0; put c0; output 0", "start 1 3", 1);
        Bound.refused("plain with a group", row + "put c0; output 0; group 0", "start 1 3", Bound.NONE);
        Bound.taken("a group alone", row + "group 0", "start 1 3", 2);
        for (int kind = 1; kind <= 5; kind++) {
            String one = (kind == 1 ? "" : "put c1; ") + "output " + kind;
            Bound.taken("one aggregate", row + one, "start 1 3", 2);
            Bound.taken("and a group", row + one + "; group 1", "start 1 3", 2);
            Bound.refused("a plain one first", row + "put c0; output 0; " + one, "start 1 3", Bound.NONE);
            Bound.refused("a plain one last", row + one + "; put c0; output 0", "start 1 3", Bound.NONE);
            Bound.refused("and a group", row + one + "; put c0; output 0; group 0", "start 1 3", Bound.NONE);
            Bound.refused("among plain ones", row + "put c0; output 0; " + one + "; put c0; output 0", "start 1 3", Bound.NONE);
        }
    }

    /** ... with aggregates one for each value of the group column among the kept rows (NULL too). */
    private static void resultRowsOfGroups() {
        Bound.rows("no kept row, no group", ALONE + "group 0; output 1; start 2 3", "");
        Bound.rows("NULL is a value", "row 0 0 0 1; row 0 0 0 1; row 0 0 0 0; " + ALONE + "group 0; output 1; start 2 3", "-,2 0,1");
        Bound.rows("the ends of int", "row 0 min 0 0; row 0 max 0 0; row 0 min 0 0; " + ALONE + "group 0; output 1; start 3 3",
            "-2147483648,2 2147483647,1");
        Bound.rows("a group whose rows aren't kept", "row 0 1 0 0; row 0 2 0 0; " + ALONE
            + "put c0 2 =; where; group 0; start 3 3", "2");
        StringBuilder most = new StringBuilder();
        for (int i = 0; i < 12; i++) {
            most.append("row 0 ").append(i).append(" 0 0; row 1 ").append(i).append(' ').append(i).append(" 0; ");
        }
        String all = "0 1 2 3 4 5 6 7 8 9 10 11";
        Bound.rows("12 groups", most + ALONE + "group 0; start 4 3", all);
        Bound.rows("12 groups of the second", most + "from 2 0 1 0 0; group 3; start 4 3", all);
        String thirteen = most.toString().replace("row 0 11 0 0", "row 0 99 0 0") + "from 2 0 1 0 0; group 3; start 4 3";
        Bound.rows("NULL of rows in no pair", thirteen, "- 0 1 2 3 4 5 6 7 8 9 10");
        String twelveOfOne = "row 0 5 0 0; row 0 6 0 0; " + pairsOfFive() + "from 2 0 1 0 0; group 3; output 1; start 4 3";
        Bound.rows("12 values and NULL", twelveOfOne,
            "-,1 0,1 1,1 2,1 3,1 4,1 5,1 6,1 7,1 8,1 9,1 10,1 11,1");
    }

    private static String pairsOfFive() {
        StringBuilder rows = new StringBuilder();
        for (int i = 0; i < 12; i++) {
            rows.append("row 1 5 ").append(i).append(" 0; ");
        }
        return rows.toString();
    }

    /** ... with aggregates and no group exactly one, the aggregates over all kept rows. */
    private static void resultRowWithoutGroup() {
        Bound.rows("of no row", ALONE + "output 1; start 4 3", "0");
        Bound.rows("of no kept row", "row 0 1 1 0; " + ALONE + "put 1 2 =; where; output 1; start 4 3", "0");
        Bound.rows("of twelve", "12* row 0 1 1 0; " + ALONE + "output 1; start 4 3", "12");
    }

    /** NULL is less than all others. */
    private static void orderAndNull() {
        String rows = "row 0 0 1 0; row 0 1 1 0; row 0 2 1 0; row 0 0 1 1; " + ALONE
            // 0, 1 and 2 become the least long, 0 and the greatest one.
            + "put " + GREATEST + " c0 1 - * 1 c0 1 + 2 / - -; output 0; ";
        String up = "- -9223372036854775808 0 9223372036854775807";
        Bound.rows("none chosen", rows + "start 1 3", up);
        Bound.rows("the least first", rows + "order 0 up -1; start 1 3", up);
        Bound.rows("the greatest first", rows + "order 0 down -1; start 1 3", "9223372036854775807 0 -9223372036854775808 -");
    }

    /** ... rows alike there by their columns from 0 on, the least first. */
    private static void orderOfRowsAlike() {
        String rows = "row 0 2 1 0; row 0 1 1 0; row 0 0 1 1; row 0 1 0 0; row 0 1 0 2; " + ALONE
            + "put c0; output 0; put c1; output 0; put 5; output 0; ";
        Bound.rows("by 0, then 1", rows + "start 1 3", "-,1,5 1,-,5 1,0,5 1,1,5 2,1,5");
        Bound.rows("0 down, then 1 up", rows + "order 0 down -1; start 1 3", "2,1,5 1,-,5 1,0,5 1,1,5 -,1,5");
        Bound.rows("1 down, then 0 up", rows + "order 1 down -1; start 1 3", "-,1,5 1,1,5 2,1,5 1,0,5 1,-,5");
        Bound.rows("2 down, all alike", rows + "order 2 down -1; start 1 3", "-,1,5 1,-,5 1,0,5 1,1,5 2,1,5");
        String nulls = "row 0 0 2 1; row 0 0 3 1; row 0 0 1 1; row 0 0 0 3; " + ALONE + "put c0; output 0; put c1; output 0; ";
        Bound.rows("NULL and NULL are alike", nulls + "start 1 3", "-,- -,1 -,2 -,3");
        Bound.rows("NULL and NULL are alike, down", nulls + "order 0 down -1; start 1 3", "-,- -,1 -,2 -,3");
        Bound.rows("all of it alike", "12* row 0 3 3 0; " + ALONE + "put c0; output 0; start 1 3", "3 3 3 3 3 3 3 3 3 3 3 3");
    }

    /** With a limit only the first so many count. */
    private static void limitOfRows() {
        String rows = "row 0 3 0 0; row 0 1 0 0; row 0 2 0 0; " + ALONE + "put c0; output 0; ";
        Bound.rows("0", rows + "order 0 up 0; start 1 3", "");
        Bound.rows("1", rows + "order 0 up 1; start 1 3", "1");
        Bound.rows("one fewer", rows + "order 0 up 2; start 1 3", "1 2");
        Bound.rows("as many", rows + "order 0 up 3; start 1 3", "1 2 3");
        Bound.rows("one more", rows + "order 0 up 4; start 1 3", "1 2 3");
        Bound.rows("the first ones down", rows + "order 0 down 2; start 1 3", "3 2");
        Bound.rows("behind a job with another order", rows + "start 1 3; finish; put c0 3 =; where; order 0 down -1; start 1 3", "3");
    }

    /** W scans of the first table; for a join W scans of the second one and W joins; with aggregates W groupings. */
    private static void tasksOfWorkers() {
        String rows = "row 0 1 1 0; row 1 1 1 0; ";
        for (int w = 1; w <= 4; w++) {
            String start = "start " + w + " 3";
            Bound.taken("scans", rows + ALONE + "put c0; output 0", start, w);
            Bound.taken("scans, groupings", rows + ALONE + "output 1", start, 2 * w);
            Bound.taken("scans, scans, joins", rows + "from 1 0 1 0 0; put c0; output 0", start, 3 * w);
            Bound.taken("scans, scans, joins, groupings", rows + "from 2 0 1 0 0; group 0", start, 4 * w);
            for (int t = 0; t < 4 * w; t++) {
                String state = rows + "from 2 0 1 0 0; group 0; " + start;
                Bound.refused("kind", state, "task " + t + " 0", t / w);
                Bound.refused("part", state, "task " + t + " 1", t % w);
            }
        }
    }

    /** PART of a value is the rest (0 .. W - 1) of its division by W, of NULL 0. */
    private static void partsOfValues() {
        int[] values = {0, 1, 2, 3, 4, 5, -1, -2, -3, -4, -5, Integer.MAX_VALUE, Integer.MIN_VALUE};
        for (int w = 1; w <= 4; w++) {
            for (int value : values) {
                int[] want = new int[2 * w];
                want[0] = 1;
                want[w + (int) (((long) value % w + w) % w)] = 1;
                Bound.taskRows("part of a group", "row 0 " + value + " 0 0; " + ALONE + "group 0; start " + w + " 3", want);
                int[] joins = new int[3 * w];
                joins[0] = 1;
                joins[w] = 1;
                joins[2 * w + (int) (((long) value % w + w) % w)] = 1;
                Bound.taskRows("part of a join column", "row 0 " + value + " 0 0; from 1 0 0 0 0; put c0; output 0; start " + w + " 3", joins);
            }
            int[] ofNull = new int[2 * w];
            ofNull[0] = 1;
            ofNull[w] = 1;
            Bound.taskRows("part of NULL", "row 0 3 0 1; " + ALONE + "group 0; start " + w + " 3", ofNull);
        }
    }

    /** ... to the first table's scans those that name no column of the second one. */
    private static void conditionsPushedToTheFirst() {
        String rows = "row 0 1 1 0; row 0 2 2 0; row 1 1 1 0; row 1 2 2 0; ";
        for (int kind = 1; kind <= 2; kind++) {
            String from = rows + "from " + kind + " 0 1 0 0; put c0; output 0; ";
            Bound.taskRows("no condition", from + "start 1 3", 2, 2, 2);
            Bound.taskRows("column 0", from + "put c0 2 =; where; start 1 3", 1, 2, 1);
            Bound.taskRows("column 1", from + "put c1 2 =; where; start 1 3", 1, 2, 1);
            Bound.taskRows("no column", from + "put 1 2 =; where; start 1 3", 0, 2, 0);
            Bound.taskRows("a column of each", from + "put c0 c2 + 4 =; where; start 1 3", 2, 2, 1);
            Bound.taskRows("UNKNOWN does not pass", from + "put c0 0 / 1 =; where; start 1 3", 0, 2, 0);
        }
        String earlier = "from 1 0 1 0 0; put c2 c3 =; where; put c2; output 0; put c3; column 2; ";
        Bound.taskRows("columns of an earlier query don't count", rows + earlier
            + "from 1 0 1 0 0; put c0 2 =; where; put c0; output 0; start 1 3", 1, 2, 1);
        Bound.taskRows("nor those of an output", rows + "from 1 0 1 0 0; put c2; output 0; put c0 2 =; where; start 1 3", 1, 2, 1);
        Bound.taskRows("over one table", rows + ALONE + "put c0 2 =; where; put c0; output 0; start 1 3", 1);
    }

    /** ... to the second table's scans, with an inner join, those that name columns of the second table alone (at least one). */
    private static void conditionsPushedToTheSecond() {
        String rows = "row 0 1 1 0; row 0 2 2 0; row 1 1 1 0; row 1 2 2 0; ";
        for (int kind = 1; kind <= 2; kind++) {
            int pushed = kind == 1 ? 1 : 2;
            String from = rows + "from " + kind + " 0 1 0 0; put c0; output 0; ";
            Bound.taskRows("column 2", from + "put c2 2 =; where; start 1 3", 2, pushed, 1);
            Bound.taskRows("column 3", from + "put c3 2 =; where; start 1 3", 2, pushed, 1);
            Bound.taskRows("both of the second", from + "put c2 c3 + 4 =; where; start 1 3", 2, pushed, 1);
            Bound.taskRows("a column of the first, too", from + "put c3 2 = c1 2 = and; where; start 1 3", 2, 2, 1);
            Bound.taskRows("one of each kind", from + "put c3 2 =; where; put c0 1 =; where; start 1 3", 1, pushed, 0);
        }
    }

    /** ... (with an outer join a row with NULL there too, by the PART of NULL), and pass all conditions. */
    private static void rowsOfJoins() {
        String rows = "row 0 0 1 1; row 0 5 2 0; row 0 6 3 0; row 1 5 9 0; row 1 5 8 0; ";
        Bound.taskRows("inner", rows + "from 1 0 1 0 0; put c0; output 0; start 3 3", 1, 1, 1, 1, 1, 0, 0, 0, 2);
        Bound.taskRows("outer", rows + "from 2 0 1 0 0; put c0; output 0; start 3 3", 1, 1, 1, 1, 1, 0, 2, 0, 2);
        Bound.taskRows("NULL alone", "row 0 7 1 1; from 2 0 1 0 0; put c0; output 0; start 2 3", 1, 0, 0, 0, 1, 0);
        Bound.taskRows("all conditions", rows + "from 2 0 1 0 0; put c3 null; where; put c0 null not; where; put c0; output 0; start 3 3",
            0, 1, 1, 1, 1, 0, 1, 0, 0);
    }

    /** A grouping has a result row for each group whose value has its part (without a group column: part 0 has the one row). */
    private static void rowsOfGroupings() {
        Bound.taskRows("no group column, no row", ALONE + "output 1; start 3 3", 0, 0, 0, 1, 0, 0);
        Bound.taskRows("no group column, rows", "5* row 0 1 1 0; " + ALONE + "output 1; start 3 3", 2, 2, 1, 1, 0, 0);
        Bound.taskRows("no group column, behind a job with one", "row 0 1 1 0; " + ALONE + "group 0; output 1; start 3 3; finish; "
            + ALONE + "output 1; start 3 3", 1, 0, 0, 1, 0, 0);
        Bound.taskRows("a group column, no row", ALONE + "group 0; output 1; start 3 3", 0, 0, 0, 0, 0, 0);
        Bound.taskRows("rows that don't count are there", "row 0 1 1 0; row 0 2 1 0; " + ALONE
            + "group 0; output 1; order 0 up 0; start 3 3", 1, 1, 0, 0, 1, 1);
    }

    /** A scan is READY when the job starts, a join when all scans are done. */
    private static void readyJoins() {
        String state = "row 0 1 1 0; row 1 1 1 0; from 1 0 1 0 0; output 1; start 2 3; ";
        for (int t = 0; t < 4; t++) {
            Bound.due("scans are sent", state, "task " + t + " 2", 1);
        }
        for (int t = 4; t < 8; t++) {
            Bound.due("the others aren't", state, "task " + t + " 2", 0);
        }
        for (int last = 0; last < 4; last++) {
            String others = state + "serve; " + last + "* pass 0 0; " + (3 - last) + "* pass 1 0";
            Bound.due("all but scan " + last + " are done", others, "task 4 2", 0);
            Bound.due("all are done", others + "; pass 0 0", "task 4 2", 1);
        }
        String three = state + "serve; 3* pass 0 0";
        Bound.due("one scan isn't done", three, "message -1 0", 1);
        Bound.due("so no join was sent", three, "task 4 2", 0);
        Bound.taken("the last scan", three, "pass 0 0", 1);
        Bound.due("both joins wait", three + "; pass 0 0", "message -1 0", 2);
        Bound.due("the first one", three + "; pass 0 0", "message 0 1", 4);
        Bound.due("the second one", three + "; pass 0 0", "message 1 1", 5);
    }

    /** ... a grouping when all tasks of other kinds are done. */
    private static void readyGroupings() {
        String state = "row 0 1 1 0; row 1 1 1 0; from 1 0 1 0 0; output 1; start 2 3; serve; 4* pass 0 0; serve; ";
        Bound.due("one join isn't done", state + "pass 0 0", "task 6 2", 0);
        Bound.due("the other join isn't done", state + "pass 1 0", "task 6 2", 0);
        Bound.due("all are done", state + "2* pass 0 0", "task 6 2", 1);
        Bound.due("both groupings wait", state + "2* pass 0 0", "message -1 0", 2);
        Bound.due("the first one", state + "2* pass 0 0", "message 0 1", 6);
        Bound.due("the second one", state + "2* pass 0 0", "message 1 1", 7);
        String alone = "row 0 1 1 0; " + ALONE + "output 1; start 2 3; serve; ";
        Bound.due("over one table: a scan isn't done", alone + "pass 0 0", "task 2 2", 0);
        Bound.due("over one table: both are done", alone + "2* pass 0 0", "task 2 2", 1);
    }

    /** ... the first attempt is 0. RUN for attempt a of a task goes to worker (part + a) % W. */
    private static void workerOfAnAttempt() {
        for (int w = 1; w <= 4; w++) {
            QueryFleet x = Script.state("row 0 1 1 0; " + ALONE + "put c0; output 0; start " + w + " 3");
            for (int attempt = 0; attempt <= 9; attempt++) {
                Check.due("as many as tasks wait", x.message(-1, 0), w);
                for (int part = 0; part < w; part++) {
                    Check.due("attempt", x.message(part, 2), attempt);
                    Check.due("worker of attempt " + attempt + " of " + w, x.message(part, 3), (part + attempt) % w);
                }
                Check.due("into that worker's queue", x.pass(w - 1, 0), 1);
                Check.due("and no other", x.work((w - 1 + attempt) % w), w - 1);
                Script.call(x, "lose");
                Check.due("not yet", x.tick() + x.tick(), 0);
                Check.due("the next attempt of all", x.tick(), w);
            }
        }
    }

    /** A worker has a QUEUE of at most 12 RUNs. */
    private static void queueOfTwelve() {
        String state = "row 0 1 1 0; " + ALONE + "put c0; output 0; start 2 3; ";
        Bound.taken("the 12th", state + "fill 14; 11* pass 2 0", "pass 0 0", 1);
        Bound.due("twelve are in it", state + "fill 14; 11* pass 2 0; pass 0 0", "crash 0", 12);
        Bound.taken("the 13th is gone", state + "fill 15; 12* pass 2 0", "pass 0 0", 0);
        Bound.due("not in the queue", state + "fill 15; 12* pass 2 0; pass 0 0", "crash 0", 12);
        Bound.due("nor waiting", state + "fill 15; 12* pass 2 0; pass 0 0", "message -1 0", 2);
        Bound.taken("another worker's queue is its own", state + "fill 15; 12* pass 2 0", "pass 1 0", 1);
    }

    /** When the last task is done, the job ENDS: the result is there, messages and queues are gone. */
    private static void endOfTheJob() {
        String state = "row 0 4 1 0; " + ALONE + "put c0; output 0; start 2 3; pass 0 2; 2* pass 0 0; work 0; work 1; ";
        Bound.due("the job is on", state + "pass 1 0", "ended 0", Bound.NONE);
        Bound.due("no result yet", state + "pass 1 0", "cell 0 0", 0);
        Bound.taken("the last task", state + "pass 1 0", "pass 1 0", 1);
        String end = state + "pass 0 2; pass 0 0; 2* pass 0 0";
        Bound.due("it ended", end, "ended 0", 1);
        Bound.due("the result is there", end, "cell 0 0", 4);
        Bound.due("no messages", end, "message -1 0", Bound.NONE);
        Bound.due("no worker", end, "work 0", Bound.NONE);
        Bound.due("no time", end, "tick", Bound.NONE);
        Bound.due("a new job's own messages alone", end + "; start 2 3", "message -1 0", 2);
        Bound.due("a new job's queues are empty", end + "; start 2 3", "crash 0", 0);
    }
}
