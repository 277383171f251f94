/** The boundary cases of promises 18 to 20: each test is of one sentence, or of one reason to refuse. */
public final class ResultBoundaryTest {
    private static final String[] FAR = {"min", "max"};
    private static final String QUERY = "row 0 1 10 0; row 0 2 0 2; row 0 3 30 0; from 0 0 0 0 0; put c0; output 0; put c1; output 0; ";
    private static final String ON = QUERY + "start 2 3; ";
    private static final String ENDED = ON + "finish; ";

    private ResultBoundaryTest() {
    }

    public static void main(String[] args) {
        endedNotNow();
        endedWhat();
        endedRowsThatCount();
        endedColumns();
        endedPasses();
        endedPassesOfAllRows();
        endedIgnored();
        cellNoResult();
        cellNoSuchRow();
        cellNoSuchColumn();
        cellNull();
        cellEnds();
        missingNoResult();
        missingNoSuchCell();
        missingNull();
        Check.end();
    }

    /** Promise 18: NONE: a job is on, none was started. */
    private static void endedNotNow() {
        for (int what = 0; what <= 3; what++) {
            Bound.refused("18: none was started", QUERY, "ended " + what, Bound.NONE);
            Bound.refused("18: a job is on", ON, "ended " + what, Bound.NONE);
            Bound.refused("18: one task isn't done", ON + "serve; pass 0 0", "ended " + what, Bound.NONE);
            Bound.refused("18: another job is on", ENDED + "start 1 3", "ended " + what, Bound.NONE);
        }
        Bound.due("18: a start that was refused", QUERY + "number 1", "start 1 3", Bound.NONE);
        Bound.refused("18: it has ended", ON + "serve; 2* pass 0 0", "ended 0", 3);
        Bound.refused("18: of the latest, another query", ENDED + "from 0 1 0 0 0", "ended 0", 3);
    }

    /** Promise 18: NONE: what isn't 0 .. 3. */
    private static void endedWhat() {
        int[] want = {3, 2, 1, 0};
        for (int what = 0; what <= 3; what++) {
            Bound.refused("18: what", ENDED, "ended " + what, want[what]);
        }
        for (String what : new String[] {"-1", "4", "min", "max"}) {
            Bound.refused("18: what", ENDED, "ended " + what, Bound.NONE);
        }
    }

    /** Promise 18: what 0 how many result rows there are (that count). */
    private static void endedRowsThatCount() {
        int[] want = {0, 1, 2, 3, 3};
        for (int limit = 0; limit <= 4; limit++) {
            Bound.refused("18: with a limit", QUERY + "order 0 up " + limit + "; start 2 3; finish", "ended 0", want[limit]);
        }
        Bound.refused("18: without one", QUERY + "order 0 up -1; start 2 3; finish", "ended 0", 3);
        Bound.refused("18: none", "from 0 0 0 0 0; put c0; output 0; start 1 3; finish", "ended 0", 0);
        Bound.refused("18: the most", "12* row 0 1 1 0; from 1 0 0 0 0; put c0; output 0; start 1 3; finish", "ended 0", 144);
        Bound.refused("18: one of no rows", "from 0 0 0 0 0; output 1; start 1 3; finish", "ended 0", 1);
        Bound.refused("18: one that does not count", "from 0 0 0 0 0; output 1; order 0 up 0; start 1 3; finish", "ended 0", 0);
    }

    /** Promise 18: 1 how many columns they have. */
    private static void endedColumns() {
        String from = "from 0 0 0 0 0; ";
        Bound.refused("18: one plain", from + "put c0; output 0; start 1 3; finish", "ended 1", 1);
        Bound.refused("18: three plain", from + "put c0; output 0; put c0; output 0; put c0; output 0; start 1 3; finish", "ended 1", 3);
        Bound.refused("18: a group alone", from + "group 0; start 1 3; finish", "ended 1", 1);
        Bound.refused("18: a group and three", from + "group 0; 3* output 1; start 1 3; finish", "ended 1", 4);
        Bound.refused("18: no rows, but columns", from + "3* output 1; order 0 up 0; start 1 3; finish", "ended 1", 3);
    }

    /** A job with so many result rows (one for each pair) and that room. */
    private static String pairs(int first, int second, int memory) {
        return first + "* row 0 1 1 0; " + second + "* row 1 1 1 0; from 1 0 1 0 0; put c0; output 0; start 1 " + memory + "; finish";
    }

    private static void duePasses(int first, int second, int memory, int want) {
        Bound.refused("18: passes of " + first * second + " rows", pairs(first, second, memory), "ended 2", want);
    }

    /** Promise 18: 0 without rows; else runs of M, one pass; as long as there are several runs one more pass makes one of each M - 1. */
    private static void endedPasses() {
        for (int memory = 3; memory <= 8; memory++) {
            duePasses(0, 1, memory, 0);
            duePasses(1, 1, memory, 1);
            duePasses(1, memory - 1, memory, 1);
            duePasses(1, memory, memory, 1);
            duePasses(1, memory + 1, memory, 2);
        }
        Bound.refused("18: without rows, behind a job with rows", ENDED + "put 1 2 =; where; start 1 3; finish", "ended 2", 0);
        // M * (M - 1) rows still are made one run by the second pass; one more row needs a third.
        duePasses(2, 3, 3, 2);
        duePasses(1, 7, 3, 3);
        duePasses(1, 12, 4, 2);
        duePasses(2, 7, 4, 3);
        duePasses(4, 5, 5, 2);
        duePasses(3, 7, 5, 3);
        duePasses(5, 6, 6, 2);
        duePasses(4, 8, 6, 3);
        duePasses(6, 7, 7, 2);
        duePasses(4, 11, 7, 3);
        duePasses(7, 8, 8, 2);
        duePasses(5, 12, 8, 3);
        // And so on: 12, 24, 48 and 96 rows with room for 3; 36 and 108 with room for 4.
        duePasses(3, 4, 3, 3);
        duePasses(2, 7, 3, 4);
        duePasses(4, 6, 3, 4);
        duePasses(5, 5, 3, 5);
        duePasses(6, 8, 3, 5);
        duePasses(5, 10, 3, 6);
        duePasses(8, 12, 3, 6);
        duePasses(9, 11, 3, 7);
        duePasses(12, 12, 3, 7);
        duePasses(6, 6, 4, 3);
        duePasses(4, 10, 4, 4);
        duePasses(9, 12, 4, 4);
        duePasses(10, 11, 4, 5);
        duePasses(12, 12, 4, 5);
        duePasses(12, 12, 8, 3);
    }

    /** Promise 18: ... it took to sort all result rows (also those that don't count). */
    private static void endedPassesOfAllRows() {
        String four = "4* row 0 1 1 0; from 0 0 0 0 0; put c0; output 0; ";
        Bound.refused("18: without a limit", four + "start 1 3; finish", "ended 2", 2);
        Bound.refused("18: a limit that fits the room", four + "order 0 up 1; start 1 3; finish", "ended 2", 2);
        Bound.refused("18: no row counts", four + "order 0 up 0; start 1 3; finish", "ended 2", 2);
        Bound.refused("18: result rows, not kept ones", four.replace("put c0; output 0", "output 1") + "start 1 3; finish", "ended 2", 1);
    }

    /** Promise 18: 3 how many DONEs were ignored. */
    private static void endedIgnored() {
        Bound.refused("18: none", ENDED, "ended 3", 0);
        Bound.refused("18: one", ON + "serve; pass 0 2; pass 0 0; pass 1 0; pass 0 0", "ended 3", 1);
        Bound.refused("18: those that were lost don't count", ON + "serve; pass 0 2; pass 0 0; pass 1 1; pass 0 0", "ended 3", 0);
        Bound.refused("18: nor those that still waited", ON + "serve; pass 0 2; pass 0 0; pass 0 0", "ended 3", 0);
        String fullQueue = ON + "fill 15; 13* pass 2 0; 2* pass 0 0; work 0; work 1; 2* pass 0 0";
        Bound.refused("18: nor RUNs that found no room", fullQueue, "ended 3", 0);
        Bound.refused("18: all but the first", ON + "serve; fill 60; pass 0 0; 58* pass 1 0; pass 0 0", "ended 3", 58);
        Bound.refused("18: the count begins anew", ON + "serve; pass 0 2; pass 0 0; pass 1 0; pass 0 0; start 1 3; finish", "ended 3", 0);
    }

    /** Promise 19: 0 if there is none (no result). */
    private static void cellNoResult() {
        Bound.refused("19: no job", QUERY, "cell 0 0", 0);
        Bound.refused("19: a job is on", ON, "cell 0 0", 0);
        Bound.refused("19: one task isn't done", ON + "serve; pass 0 0", "cell 0 0", 0);
        Bound.refused("19: it has ended", ENDED, "cell 0 0", 1);
        Bound.refused("19: another job is on", ENDED + "start 1 3", "cell 0 0", 0);
    }

    /** Promise 19: ... of result row i (both from 0); 0 if there is none. */
    private static void cellNoSuchRow() {
        Bound.refused("19: the first", ENDED, "cell 0 0", 1);
        Bound.refused("19: the last", ENDED, "cell 2 0", 3);
        Bound.refused("19: one behind the last", ENDED, "cell 3 0", 0);
        Bound.refused("19: -1", ENDED, "cell -1 0", 0);
        for (String far : FAR) {
            Bound.refused("19: far off", ENDED, "cell " + far + " 0", 0);
        }
        String limited = QUERY + "order 0 up 2; start 2 3; finish";
        Bound.refused("19: the last that counts", limited, "cell 1 0", 2);
        Bound.refused("19: the first that doesn't", limited, "cell 2 0", 0);
        String most = "12* row 0 5 1 0; from 1 0 0 0 0; put c0; output 0; start 1 3; finish";
        Bound.refused("19: the last of the most", most, "cell 143 0", 5);
        Bound.refused("19: one behind the most", most, "cell 144 0", 0);
        Bound.refused("19: a row of an earlier, longer result", ENDED + "put c0 1 =; where; start 1 3; finish", "cell 1 0", 0);
    }

    /** Promise 19: The value of column c; 0 if there is none. */
    private static void cellNoSuchColumn() {
        Bound.refused("19: the first", ENDED, "cell 2 0", 3);
        Bound.refused("19: the last", ENDED, "cell 2 1", 30);
        Bound.refused("19: one behind the last", ENDED, "cell 2 2", 0);
        Bound.refused("19: -1", ENDED, "cell 2 -1", 0);
        for (String far : FAR) {
            Bound.refused("19: far off", ENDED, "cell 0 " + far, 0);
            Bound.refused("19: both far off", ENDED, "cell " + far + " " + far, 0);
        }
        String most = "row 0 5 6 0; from 0 0 0 0 0; group 0; put 7; output 4; put 8; output 4; put 9; output 4; start 1 3; finish";
        Bound.refused("19: the last of the most", most, "cell 0 3", 9);
        Bound.refused("19: one behind the most", most, "cell 0 4", 0);
        String earlier = "; from 0 0 0 0 0; put c0; output 0; start 1 3; finish";
        Bound.refused("19: a column of an earlier, wider result", most + earlier, "cell 0 1", 0);
    }

    /** Promise 19: 0 if it is NULL. */
    private static void cellNull() {
        Bound.refused("19: NULL of a table", ENDED, "cell 1 1", 0);
        Bound.refused("19: NULL of a table where a number stands", "row 0 77 77 3; from 0 0 0 0 0; put c0; output 0; start 1 3; finish",
            "cell 0 0", 0);
        Bound.refused("19: a quotient by 0", "row 0 7 0 0; from 0 0 0 0 0; put c0 c1 /; output 0; start 1 3; finish", "cell 0 0", 0);
        Bound.refused("19: a sum of none", "from 0 0 0 0 0; put c0; output 3; start 1 3; finish", "cell 0 0", 0);
        Bound.refused("19: the least of none", "from 0 0 0 0 0; put c0; output 4; start 1 3; finish", "cell 0 0", 0);
        Bound.refused("19: the greatest of none", "from 0 0 0 0 0; put c0; output 5; start 1 3; finish", "cell 0 0", 0);
        String big = "1073741824 1073741824 * 7 *";
        Bound.refused("19: no long", "row 0 1 1 0; from 0 0 0 0 0; put " + big + " 2 *; output 0; start 1 3; finish", "cell 0 0", 0);
        Bound.refused("19: a sum that is no long", "2* row 0 1 1 0; from 0 0 0 0 0; put " + big + "; output 3; start 1 3; finish",
            "cell 0 0", 0);
        Bound.refused("19: the group of NULL", "row 0 77 1 1; from 0 0 0 0 0; group 0; start 1 3; finish", "cell 0 0", 0);
    }

    /** Promise 19: the value (a long). */
    private static void cellEnds() {
        String row = "row 0 1 1 0; from 0 0 0 0 0; ";
        String least = "1073741824 1073741824 * -8 *";
        Bound.refused("19: the least", row + "put " + least + "; output 0; start 1 3; finish", "cell 0 0", Long.MIN_VALUE);
        Bound.refused("19: the greatest", row + "put -1 " + least + " -; output 0; start 1 3; finish", "cell 0 0", Long.MAX_VALUE);
    }

    /** Promise 20: Whether there is a result row i (no result: there is none). */
    private static void missingNoResult() {
        Bound.refused("20: no job", QUERY, "missing 1 1", Bound.FALSE);
        Bound.refused("20: a job is on", ON, "missing 1 1", Bound.FALSE);
        Bound.refused("20: one task isn't done", ON + "serve; pass 0 0", "missing 1 1", Bound.FALSE);
        Bound.refused("20: it has ended", ENDED, "missing 1 1", Bound.TRUE);
        Bound.refused("20: another job is on", ENDED + "start 1 3", "missing 1 1", Bound.FALSE);
    }

    /** Promise 20: Whether there is a result row i with a column c. */
    private static void missingNoSuchCell() {
        String nulls = "2* row 0 7 7 3; from 0 0 0 0 0; put c0; output 0; put c1; output 0; ";
        String ended = nulls + "start 1 3; finish";
        for (int i = 0; i <= 1; i++) {
            for (int c = 0; c <= 1; c++) {
                Bound.refused("20: all that are there", ended, "missing " + i + " " + c, Bound.TRUE);
            }
        }
        for (String far : new String[] {"-1", "2", "min", "max"}) {
            Bound.refused("20: no such row", ended, "missing " + far + " 0", Bound.FALSE);
            Bound.refused("20: no such column", ended, "missing 0 " + far, Bound.FALSE);
            Bound.refused("20: neither", ended, "missing " + far + " " + far, Bound.FALSE);
        }
        String limited = nulls + "order 0 up 1; start 1 3; finish";
        Bound.refused("20: the last that counts", limited, "missing 0 0", Bound.TRUE);
        Bound.refused("20: the first that doesn't", limited, "missing 1 0", Bound.FALSE);
        String most = "12* row 0 5 1 2; from 1 0 0 0 0; put c1; output 0; start 1 3; finish";
        Bound.refused("20: the last of the most", most, "missing 143 0", Bound.TRUE);
        Bound.refused("20: one behind the most", most, "missing 144 0", Bound.FALSE);
        String four = "row 0 5 1 3; from 0 0 0 0 0; group 0; put c0; output 3; put c0; output 4; put c1; output 5; start 1 3; finish";
        Bound.refused("20: the last of four columns", four, "missing 0 3", Bound.TRUE);
        Bound.refused("20: one behind four columns", four, "missing 0 4", Bound.FALSE);
        Bound.refused("20: of an earlier, longer result", ended + "; put 1 2 =; where; start 1 3; finish", "missing 0 0", Bound.FALSE);
    }

    /** Promise 20: ... and that is NULL. */
    private static void missingNull() {
        Bound.refused("20: NULL", ENDED, "missing 1 1", Bound.TRUE);
        Bound.refused("20: a number beside it", ENDED, "missing 1 0", Bound.FALSE);
        Bound.refused("20: 0 is not NULL", "row 0 0 0 0; from 0 0 0 0 0; put c0; output 0; start 1 3; finish", "missing 0 0", Bound.FALSE);
        Bound.refused("20: how many of none", "from 0 0 0 0 0; output 1; start 1 3; finish", "missing 0 0", Bound.FALSE);
        Bound.refused("20: how many numbers of none", "from 0 0 0 0 0; put c0; output 2; start 1 3; finish", "missing 0 0", Bound.FALSE);
        for (int kind = 3; kind <= 5; kind++) {
            Bound.refused("20: of none", "from 0 0 0 0 0; put c0; output " + kind + "; start 1 3; finish", "missing 0 0", Bound.TRUE);
        }
        Bound.refused("20: an outer join's", "row 0 1 1 0; from 2 0 1 0 0; put c2; output 0; start 1 3; finish", "missing 0 0", Bound.TRUE);
    }
}
