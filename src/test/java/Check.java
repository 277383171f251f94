/** What the tests share: comparing answers, and driving a job to its end. */
final class Check {
    private static int wrong = 0;

    private Check() {
    }

    static void due(String call, long got, long want) {
        if (got != want) {
            wrong++;
            System.out.println(call + " answered " + got + ", due is " + want);
        }
    }

    static void due(String call, boolean got, boolean want) {
        if (got != want) {
            wrong++;
            System.out.println(call + " answered " + got + ", due is " + want);
        }
    }

    static void end() {
        System.out.println(wrong == 0 ? "all answers are as due" : wrong + " answers are not as due");
        if (wrong != 0) {
            System.exit(1);
        }
    }

    /** Delivers and works in order until the job ends. */
    static void finish(QueryFleet x) {
        driveOn(x);
        due("job is on after finish", x.message(-1, 0), QueryFleet.NONE);
    }

    /** The same, but a job that can't be ended so is left; lets time pass when nothing waits. */
    static void driveOn(QueryFleet x) {
        for (int i = 0; i < 12; i++) {
            int waiting = x.message(-1, 0);
            if (waiting < 0) {
                return;
            }
            if (waiting == 0) {
                x.tick();
            }
            deliver(x, waiting);
            work(x);
        }
    }

    /** Delivers all that waits now, then lets the workers do all that is in their queues. */
    static void deliverAndWork(QueryFleet x) {
        deliver(x, x.message(-1, 0));
        work(x);
    }

    private static void deliver(QueryFleet x, int messages) {
        for (int i = 0; i < messages && x.pass(0, 0) >= 0; i++) {
            continue;
        }
    }

    private static void work(QueryFleet x) {
        for (int w = 0; w < 4; w++) {
            for (int i = 0; i < 12 && x.work(w) >= 0; i++) {
                continue;
            }
        }
    }

    /** The result rows as text, NULL as "-", columns parted by "," and rows by " ". */
    static String rows(QueryFleet x) {
        return rows(x, Integer.MAX_VALUE);
    }

    /** The first rows, so many at most: an object is good for 512 calls alone. */
    static String rows(QueryFleet x, int most) {
        StringBuilder text = new StringBuilder();
        int rows = Math.min(x.ended(0), most);
        int columns = x.ended(1);
        for (int i = 0; i < rows; i++) {
            text.append(i == 0 ? "" : " ");
            for (int c = 0; c < columns; c++) {
                text.append(c == 0 ? "" : ",");
                text.append(x.missing(i, c) ? "-" : Long.toString(x.cell(i, c)));
            }
        }
        return text.toString();
    }

    static void dueRows(String what, QueryFleet x, String want) {
        String got = rows(x);
        if (!got.equals(want)) {
            wrong++;
            System.out.println(what + ": rows are [" + got + "], due are [" + want + "]");
        }
    }

    /** Adds a row; null stands for NULL. */
    static int add(QueryFleet x, int table, Integer first, Integer second) {
        int nulls = (first == null ? 1 : 0) + (second == null ? 2 : 0);
        return x.row(table, first == null ? 77 : first, second == null ? 77 : second, nulls);
    }

    /**
     * Puts an expression on the stack, written behind its operands and parted by spaces:
     * c0 .. c3 columns, + - * / = < and or not null operations, all else numbers.
     */
    static boolean put(QueryFleet x, String text) {
        String[] operations = {"+", "-", "*", "/", "=", "<", "and", "or", "not", "null"};
        boolean all = true;
        for (String part : text.split(" ")) {
            int op = java.util.Arrays.asList(operations).indexOf(part);
            if (op >= 0) {
                all &= x.operate(op);
            } else if (part.startsWith("c")) {
                all &= x.column(Integer.parseInt(part.substring(1)));
            } else {
                all &= x.number(Integer.parseInt(part));
            }
        }
        return all;
    }

    static void where(QueryFleet x, String text) {
        due("put " + text, put(x, text), true);
        due("where() of " + text, x.where(), true);
    }

    static void output(QueryFleet x, int kind, String text) {
        due("put " + text, put(x, text), true);
        due("output(" + kind + ") of " + text, x.output(kind), true);
    }
}
