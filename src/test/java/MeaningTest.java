/** The document's terms: joins, expressions, aggregates and the order of result rows. */
public final class MeaningTest {
    private MeaningTest() {
    }

    public static void main(String[] args) {
        arithmetic();
        truths();
        truthsAreNotTwoValued();
        joins();
        joinOfATableWithItself();
        nullIsNoPair();
        outerJoinAndConditions();
        aggregates();
        exactSums();
        groups();
        order();
        Check.end();
    }

    /** The rows of plain outputs over one row: x = 7, y = NULL. */
    private static void dueValue(String expression, String want) {
        QueryFleet x = new QueryFleet();
        Check.add(x, 0, 7, null);
        x.from(0, 0, 0, 0, 0);
        Check.output(x, 0, expression);
        x.start(1, 3);
        Check.finish(x);
        Check.dueRows(expression, x, want);
    }

    private static void arithmetic() {
        dueValue("c0 3 +", "10");
        dueValue("c0 9 -", "-2");
        dueValue("c0 -3 *", "-21");
        dueValue("c0 2 /", "3");
        dueValue("c0 -2 /", "-3");
        dueValue("0 c0 - 2 /", "-3");
        dueValue("0 c0 - -2 /", "3");
        dueValue("c0 0 /", "-");
        dueValue("0 0 /", "-");
        for (String op : new String[] {"+", "-", "*", "/"}) {
            dueValue("c0 c1 " + op, "-");
            dueValue("c1 c0 " + op, "-");
            dueValue("c1 c1 " + op, "-");
        }
        dueValue("0 c1 *", "-");
        String minInt = "-2147483648";
        String top = "1073741824 1073741824 *";          // 2 ^ 60
        String least = top + " -8 *";                    // - 2 ^ 63
        dueValue(least, "-9223372036854775808");
        dueValue(least + " 1 -", "-");
        dueValue(least + " -1 +", "-");
        dueValue(least + " -1 *", "-");
        dueValue("-1 " + least + " *", "-");
        dueValue(least + " -1 /", "-");
        dueValue(least + " 1 /", "-9223372036854775808");
        dueValue(least + " 1 *", "-9223372036854775808");
        dueValue("0 " + least + " -", "-");
        dueValue("-1 " + least + " -", "9223372036854775807");
        dueValue("-1 " + least + " - 1 +", "-");
        dueValue("-1 " + least + " - -1 *", "-9223372036854775807");
        dueValue("-1 " + least + " - -1 -", "-");
        dueValue(top + " 8 *", "-");
        dueValue(top + " 7 *", "8070450532247928832");
        dueValue(top + " 16 *", "-");
        dueValue(top + " " + minInt + " *", "-");
        dueValue("0 " + least + " *", "0");
        dueValue(least + " 0 *", "0");
        dueValue(top + " 16 * 0 *", "-");
    }

    private static String truth(int t) {
        return t == 0 ? "1 2 =" : t == 1 ? "c1 c1 =" : "1 1 =";
    }

    /** 1 if the truth of the expression is TRUE for the row x = 7, y = NULL. */
    private static int isKept(String expression) {
        QueryFleet x = new QueryFleet();
        Check.add(x, 0, 7, null);
        x.from(0, 0, 0, 0, 0);
        Check.where(x, expression);
        x.output(1);
        x.start(1, 3);
        Check.finish(x);
        return (int) x.cell(0, 0);
    }

    /** 0 FALSE, 1 UNKNOWN, 2 TRUE: UNKNOWN is what neither it nor its NOT keeps. */
    private static void dueTruth(String expression, int want) {
        int got = isKept(expression) == 1 ? 2 : isKept(expression + " not") == 1 ? 0 : 1;
        Check.due("truth of " + expression, got, want);
    }

    private static void truths() {
        for (int p = 0; p <= 2; p++) {
            dueTruth(truth(p), p);
            dueTruth(truth(p) + " not", 2 - p);
            for (int q = 0; q <= 2; q++) {
                dueTruth(truth(p) + " " + truth(q) + " and", Math.min(p, q));
                dueTruth(truth(p) + " " + truth(q) + " or", Math.max(p, q));
            }
        }
        dueTruth("c0 7 =", 2);
        dueTruth("c0 8 =", 0);
        dueTruth("c0 8 <", 2);
        dueTruth("c0 7 <", 0);
        dueTruth("8 c0 <", 0);
        dueTruth("-2147483648 2147483647 <", 2);
        dueTruth("c0 c1 =", 1);
        dueTruth("c1 c0 <", 1);
        dueTruth("c0 c1 <", 1);
        dueTruth("c1 null", 2);
        dueTruth("c0 null", 0);
        dueTruth("c0 0 / null", 2);
        dueTruth("c0 0 / 1 =", 1);
    }

    private static void truthsAreNotTwoValued() {
        Check.due("UNKNOWN and its NOT", isKept("c1 1 = c1 1 = not or"), 0);
        Check.due("FALSE decides", isKept("c1 1 = 1 2 = and not"), 1);
        Check.due("twice NOT of UNKNOWN", isKept("c1 1 = not not"), 0);
    }

    private static QueryFleet twoTables() {
        QueryFleet x = new QueryFleet();
        Check.add(x, 0, 1, 10);
        Check.add(x, 0, 2, 1);
        Check.add(x, 0, null, 2);
        Check.add(x, 0, 1, null);
        Check.add(x, 2, 1, 2);
        Check.add(x, 2, 1, null);
        Check.add(x, 2, null, 1);
        Check.add(x, 2, 3, 10);
        return x;
    }

    private static void dueJoin(int kind, int left, int right, String want) {
        QueryFleet x = twoTables();
        x.from(kind, 0, 2, left, right);
        Check.output(x, 0, "c0");
        Check.output(x, 0, "c1");
        Check.output(x, 0, "c2 100 * c3 +");
        x.start(3, 3);
        Check.finish(x);
        Check.dueRows("join " + kind + " " + left + " " + right, x, want);
    }

    private static void joins() {
        dueJoin(1, 0, 0, "1,-,- 1,-,102 1,10,- 1,10,102");
        dueJoin(2, 0, 0, "-,2,- 1,-,- 1,-,102 1,10,- 1,10,102 2,1,-");
        dueJoin(1, 1, 1, "-,2,102 1,10,310 2,1,-");
        dueJoin(2, 1, 1, "-,2,102 1,-,- 1,10,310 2,1,-");
        dueJoin(1, 0, 1, "1,-,- 1,10,- 2,1,102");
        dueJoin(1, 1, 0, "2,1,- 2,1,102");
    }

    private static void joinOfATableWithItself() {
        QueryFleet x = twoTables();
        x.from(1, 0, 0, 0, 1);
        Check.output(x, 0, "c0");
        Check.output(x, 0, "c2");
        Check.where(x, "c2 c1 <");
        x.start(2, 3);
        Check.finish(x);
        Check.dueRows("a table with itself", x, "1,2");
        x.from(2, 1, 1, 0, 0);
        x.output(1);
        x.start(2, 3);
        Check.finish(x);
        Check.dueRows("an empty table with itself", x, "0");
    }

    private static void nullIsNoPair() {
        for (int kind = 1; kind <= 2; kind++) {
            QueryFleet x = new QueryFleet();
            x.row(0, 5, 1, 1);
            x.row(0, 6, 2, 0);
            x.row(1, 5, 3, 0);
            x.row(1, 6, 4, 1);
            x.row(1, 5, 5, 1);
            x.from(kind, 0, 1, 0, 0);
            Check.output(x, 0, "c1");
            Check.output(x, 0, "c3");
            x.start(2, 3);
            Check.finish(x);
            Check.dueRows("what stands beside NULL doesn't count", x, kind == 1 ? "" : "1,- 2,-");
        }
    }

    private static void outerJoinAndConditions() {
        QueryFleet x = twoTables();
        x.from(2, 0, 2, 0, 0);
        Check.where(x, "c3 2 = not");
        Check.output(x, 0, "c0");
        x.start(2, 3);
        Check.finish(x);
        Check.dueRows("a condition of the second table makes no NULL rows", x, "");
        x.from(2, 0, 2, 0, 0);
        Check.where(x, "c2 null");
        Check.output(x, 0, "c0");
        Check.output(x, 0, "c1");
        x.start(2, 3);
        Check.finish(x);
        Check.dueRows("those in no pair", x, "-,2 2,1");
        Check.where(x, "c0 null not");
        x.start(2, 3);
        Check.finish(x);
        Check.dueRows("and all conditions", x, "2,1");
    }

    private static void aggregates() {
        QueryFleet x = new QueryFleet();
        Check.add(x, 0, 1, -5);
        Check.add(x, 0, 1, null);
        Check.add(x, 0, 1, 3);
        x.from(0, 0, 0, 0, 0);
        x.output(1);
        Check.output(x, 2, "c1");
        Check.output(x, 3, "c1");
        x.start(2, 3);
        Check.finish(x);
        Check.dueRows("rows, numbers, sum", x, "3,2,-2");
        x.from(0, 0, 0, 0, 0);
        Check.output(x, 4, "c1");
        Check.output(x, 5, "c1");
        Check.output(x, 5, "c1 c1 *");
        x.start(2, 3);
        Check.finish(x);
        Check.dueRows("least, greatest", x, "-5,3,25");
        x.from(0, 0, 0, 0, 0);
        Check.output(x, 4, "c1 10 +");
        Check.output(x, 5, "c1 10 -");
        x.start(2, 3);
        Check.finish(x);
        Check.dueRows("least above 0, greatest below 0", x, "5,-7");
        Check.where(x, "c1 null");
        x.start(2, 3);
        Check.finish(x);
        Check.dueRows("least, greatest of none", x, "-,-");
        x.from(0, 0, 0, 0, 0);
        Check.where(x, "c1 null");
        x.output(1);
        Check.output(x, 2, "c1");
        Check.output(x, 3, "c1");
        x.start(2, 3);
        Check.finish(x);
        Check.dueRows("rows, numbers, sum of none", x, "1,0,-");
        Check.where(x, "1 2 =");
        x.start(2, 3);
        Check.finish(x);
        Check.dueRows("no rows: one row", x, "0,0,-");
    }

    private static void exactSums() {
        QueryFleet x = new QueryFleet();
        Check.add(x, 0, 4, 1);
        Check.add(x, 0, 7, 1);
        Check.add(x, 0, -8, 1);
        Check.add(x, 0, 1, 0);
        Check.add(x, 0, -8, 2);
        Check.add(x, 0, -1, 2);
        Check.add(x, 0, 7, 3);
        Check.add(x, 0, 1, 3);
        Check.add(x, 0, 4, 4);
        Check.add(x, 0, -8, 4);
        Check.add(x, 0, -4, 4);
        x.from(0, 0, 0, 0, 0);
        x.group(1);
        Check.output(x, 3, "c0 1073741824 * 1073741824 *");
        x.start(2, 3);
        Check.finish(x);
        // In units of 2 ^ 60 a long goes from -8 to just below 8; 4 + 7 - 8 passes beyond and comes back.
        Check.dueRows("sums", x, "0,1152921504606846976 1,3458764513820540928 2,- 3,- 4,-9223372036854775808");
        QueryFleet z = new QueryFleet();
        Check.add(z, 0, 1, 0);
        Check.add(z, 0, 2, 0);
        z.from(0, 0, 0, 0, 0);
        // 2 ^ 62 and 2 ^ 62 - 1 or 2 ^ 62; then the same below 0 with one more.
        Check.output(z, 3, "1073741824 1073741824 * 4 * c0 2 / -");
        Check.output(z, 3, "1073741824 1073741824 * 4 * c0 3 / -");
        Check.output(z, 3, "1073741824 1073741824 * -4 * c0 2 / -");
        z.start(2, 3);
        Check.finish(z);
        Check.dueRows("the ends of sums", z, "9223372036854775807,-,-");
        z.from(0, 0, 0, 0, 0);
        Check.output(z, 3, "1073741824 1073741824 * -4 * c0 3 / -");
        z.start(2, 3);
        Check.finish(z);
        Check.dueRows("the least sum", z, "-9223372036854775808");
        QueryFleet y = new QueryFleet();
        for (int i = 0; i < 12; i++) {
            Check.add(y, 0, 0, -8);
            Check.add(y, 1, 0, i % 2 == 0 ? -8 : 7);
        }
        y.from(1, 0, 1, 0, 0);
        Check.output(y, 3, "c1 1073741824 * 1073741824 *");
        Check.output(y, 3, "c3 1073741824 * 1073741824 *");
        Check.output(y, 3, "c3 1073741824 * 1073741824 * 8 /");
        y.start(4, 3);
        Check.finish(y);
        Check.dueRows("144 numbers", y, "-,-,-");
        Check.where(y, "c3 0 <");
        y.start(4, 3);
        Check.finish(y);
        Check.dueRows("72 numbers", y, "-,-,-");
        QueryFleet w = new QueryFleet();
        for (int i = 0; i < 12; i++) {
            Check.add(w, 0, 0, i < 6 ? 7 : -7);
            Check.add(w, 1, 0, i == 11 ? 1 : 0);
        }
        w.from(1, 0, 1, 0, 0);
        Check.output(w, 3, "c1 1073741824 * 1073741824 * c3 -");
        w.output(1);
        w.start(4, 3);
        Check.finish(w);
        Check.dueRows("72 times far up, 72 times down again", w, "-12,144");
    }

    private static void groups() {
        QueryFleet x = new QueryFleet();
        Check.add(x, 0, 3, 1);
        Check.add(x, 0, null, 2);
        Check.add(x, 0, 3, 4);
        Check.add(x, 0, 0, 8);
        Check.add(x, 0, null, 16);
        Check.add(x, 0, -9, 32);
        x.from(0, 0, 0, 0, 0);
        x.group(0);
        Check.output(x, 3, "c1");
        x.output(1);
        x.start(4, 3);
        Check.finish(x);
        Check.dueRows("NULL is a group, not that of 0", x, "-,18,2 -9,32,1 0,8,1 3,5,2");
        Check.where(x, "c1 4 <");
        x.start(4, 3);
        Check.finish(x);
        Check.dueRows("groups of kept rows alone", x, "-,2,1 3,1,1");
        Check.where(x, "c1 0 <");
        x.start(4, 3);
        Check.finish(x);
        Check.dueRows("no kept row, no group", x, "");
        for (int i = 0; i < 12; i++) {
            x.row(1, i, 5, 0);
        }
        x.row(0, 77, 0, 2);
        x.from(2, 1, 0, 0, 0);
        x.group(3);
        x.output(1);
        x.start(3, 3);
        Check.finish(x);
        Check.dueRows("by a column of the second table", x, "-,10 1,1 4,1 8,1");
    }

    private static void order() {
        QueryFleet x = new QueryFleet();
        Check.add(x, 0, 2, 1);
        Check.add(x, 0, 1, null);
        Check.add(x, 0, 3, 1);
        Check.add(x, 0, null, 1);
        Check.add(x, 0, 2, null);
        Check.add(x, 0, 1, -1);
        x.from(0, 0, 0, 0, 0);
        Check.output(x, 0, "c0");
        Check.output(x, 0, "c1");
        x.start(1, 3);
        Check.finish(x);
        Check.dueRows("none chosen", x, "-,1 1,- 1,-1 2,- 2,1 3,1");
        x.order(1, false, -1);
        x.start(1, 3);
        Check.finish(x);
        Check.dueRows("by column 1", x, "1,- 2,- 1,-1 -,1 2,1 3,1");
        x.order(1, true, -1);
        x.start(1, 3);
        Check.finish(x);
        Check.dueRows("by column 1 down, the rest up", x, "-,1 2,1 3,1 1,-1 1,- 2,-");
        x.order(0, true, -1);
        x.start(1, 3);
        Check.finish(x);
        Check.dueRows("by column 0 down, the rest up", x, "3,1 2,- 2,1 1,- 1,-1 -,1");
        QueryFleet y = new QueryFleet();
        Check.add(y, 0, 8, 0);
        Check.add(y, 0, -8, 0);
        y.from(0, 0, 0, 0, 0);
        Check.output(y, 0, "c0 1073741823 * 1073741823 *");
        y.start(1, 3);
        Check.finish(y);
        Check.dueRows("numbers far apart", y, "-9223372019674906632 9223372019674906632");
    }
}
