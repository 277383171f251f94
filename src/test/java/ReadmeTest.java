/** The examples of README.md, call by call: each answer is the one that the text tells. */
public final class ReadmeTest {
    private ReadmeTest() {
    }

    public static void main(String[] args) {
        oneTable();
        joinWithLosses();
        Check.end();
    }

    private static void oneTable() {
        QueryFleet x = new QueryFleet();
        Check.due("row(0, 1, 10, 0)", x.row(0, 1, 10, 0), 1);
        Check.due("row(0, 2, 0, 2)", x.row(0, 2, 0, 2), 2);
        Check.due("from(0, 0, 0, 0, 0)", x.from(0, 0, 0, 0, 0), true);
        Check.due("column(0)", x.column(0), true);
        Check.due("output(0)", x.output(0), true);
        Check.due("column(1)", x.column(1), true);
        Check.due("output(0)", x.output(0), true);
        Check.due("start(1, 3)", x.start(1, 3), 1);
        Check.due("pass(0, 0) of RUN", x.pass(0, 0), 1);
        Check.due("work(0)", x.work(0), 0);
        Check.due("pass(0, 0) of DONE", x.pass(0, 0), 1);
        Check.due("ended(0)", x.ended(0), 2);
        Check.due("cell(0, 1)", x.cell(0, 1), 10);
        Check.due("cell(1, 0)", x.cell(1, 0), 2);
        Check.due("missing(1, 1)", x.missing(1, 1), true);
    }

    private static void joinWithLosses() {
        QueryFleet x = new QueryFleet();
        x.row(0, 1, 10, 0);
        x.row(0, 2, 20, 0);
        x.row(0, 3, 30, 0);
        x.row(0, 4, 40, 0);
        x.row(1, 1, 5, 0);
        x.row(1, 1, 7, 0);
        x.row(1, 4, 9, 0);
        Check.due("from(2, 0, 1, 0, 0)", x.from(2, 0, 1, 0, 0), true);
        Check.due("column(1)", x.column(1), true);
        Check.due("number(40)", x.number(40), true);
        Check.due("operate(5)", x.operate(5), true);
        Check.due("where()", x.where(), true);
        Check.due("column(3)", x.column(3), true);
        Check.due("output(3)", x.output(3), true);
        Check.due("group(0)", x.group(0), true);
        Check.due("order(1, true, 2)", x.order(1, true, 2), true);
        Check.due("start(2, 3)", x.start(2, 3), 8);
        Check.due("pass(0, 1)", x.pass(0, 1), 1);
        Check.due("pass(0, 2)", x.pass(0, 2), 1);
        Check.due("pass(0, 0)", x.pass(0, 0), 1);
        Check.due("crash(1)", x.crash(1), 1);
        toTheEnd(x);
        Check.due("ended(0)", x.ended(0), 2);
        Check.dueRows("the two first rows", x, "1,12 2,-");
        Check.due("task(0, 2), the lost RUN was sent again", x.task(0, 2), 2);
    }

    // As in README.md; a bound ends it here even if the program were broken.
    private static void toTheEnd(QueryFleet x) {
        for (int round = 0; round < 20 && x.message(-1, 0) != QueryFleet.NONE; round++) {
            if (x.message(-1, 0) == 0) {
                x.tick();
            }
            for (int i = 0; i < 60 && x.message(-1, 0) > 0; i++) {
                x.pass(0, 0);
            }
            for (int w = 0; w < 2; w++) {
                for (int i = 0; i < 12 && x.work(w) >= 0; i++) {
                    continue;
                }
            }
        }
        Check.due("message(-1, 0), the job ended", x.message(-1, 0), QueryFleet.NONE);
    }
}
