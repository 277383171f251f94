/** The boundary cases of promises 11 to 17: each test is of one sentence, or of one reason to refuse. */
public final class JobBoundaryTest {
    private static final String[] FAR = {"min", "max"};
    private static final String ROWS = "row 0 1 10 0; row 0 2 20 0; row 0 3 30 0; row 1 2 7 0; row 1 3 8 0; ";
    private static final String ALONE = ROWS + "from 0 0 0 0 0; put c0; output 0; ";
    /** Two workers, tasks 0 and 1; both RUNs wait. */
    private static final String ON = ALONE + "start 2 3; ";
    private static final String ENDED = ON + "finish; ";
    /** Two workers, scans 0 to 3, joins 4 and 5, groupings 6 and 7. */
    private static final String JOINED = ROWS + "from 1 0 1 0 0; put c3; output 3; group 0; start 2 3; ";

    private JobBoundaryTest() {
    }

    public static void main(String[] args) {
        startJobIsOn();
        startNoQuery();
        startNotWhole();
        startStack();
        startWorkers();
        startMemory();
        startQueryStays();
        startEarlierResult();
        startTableWithItself();
        startEmptyTables();
        passNoJob();
        passNoSuchMessage();
        passHow();
        passRunIntoTheQueue();
        passRunIntoAFullQueue();
        passDone();
        passDoneOfATaskThatIsDone();
        passLastDone();
        passLost();
        passSentOnceMore();
        passSentOnceMoreFull();
        passReadyBeyondSixty();
        workNoJob();
        workNoSuchWorker();
        workEmptyQueue();
        workFull();
        workSendsDone();
        crashNoJob();
        crashNoSuchWorker();
        crashQueue();
        tickNoJob();
        tickThreeAgo();
        tickCopiesDoNotCount();
        tickDoneOrNotSent();
        tickFewerThanSixty();
        tickTimeGrowsWithSixty();
        messageNoJob();
        messageHowMany();
        messageNoSuch();
        messageWhat();
        taskNoJob();
        taskNoSuch();
        taskWhat();
        taskRowsOnlyIfDone();
        taskAttempts();
        taskOfTheLatest();
        Check.end();
    }

    /** Promise 11: NONE: a job is on. */
    private static void startJobIsOn() {
        Bound.refused("11: a job is on", ON, "start 2 3", Bound.NONE);
        Bound.refused("11: a job is on", ON, "start 1 8", Bound.NONE);
        Bound.refused("11: a job is on, no message waits", ON + "lose", "start 2 3", Bound.NONE);
        Bound.refused("11: one task isn't done", ON + "serve; pass 0 0", "start 2 3", Bound.NONE);
        Bound.taken("11: it has ended", ENDED, "start 2 3", 2);
    }

    /** Promise 11: NONE: no query was begun. */
    private static void startNoQuery() {
        Bound.refused("11: no query", "", "start 1 3", Bound.NONE);
        Bound.refused("11: rows, no query", ROWS, "start 1 3", Bound.NONE);
    }

    /** Promise 11: NONE: it isn't whole. */
    private static void startNotWhole() {
        String begun = ENDED + "from 0 0 0 0 0; ";
        Bound.refused("11: no outputs", begun, "start 1 3", Bound.NONE);
        Bound.refused("11: conditions alone", begun + "put 1 1 =; where", "start 1 3", Bound.NONE);
        Bound.refused("11: an order alone", begun + "order 0 up 3", "start 1 3", Bound.NONE);
        Bound.refused("11: plain and a group", begun + "put c0; output 0; group 0", "start 1 3", Bound.NONE);
        Bound.refused("11: plain and aggregate", begun + "put c0; output 0; output 1", "start 1 3", Bound.NONE);
        Bound.refused("11: aggregate and plain", begun + "output 1; put c0; output 0", "start 1 3", Bound.NONE);
        Bound.taken("11: a group alone", begun + "group 0", "start 1 3", 2);
        Bound.taken("11: one plain", begun + "put c0; output 0", "start 1 3", 1);
    }

    /** Promise 11: NONE: ... or something is on the stack. */
    private static void startStack() {
        Bound.refused("11: a number", ALONE + "number 1", "start 1 3", Bound.NONE);
        Bound.refused("11: a truth", ALONE + "put 1 null", "start 1 3", Bound.NONE);
        Bound.refused("11: eight", ALONE + "8* number 1", "start 1 3", Bound.NONE);
        Bound.taken("11: nothing any more", ALONE + "number 1; output 0", "start 1 3", 1);
    }

    /** Promise 11: NONE: workers isn't 1 .. 4. */
    private static void startWorkers() {
        Bound.taken("11: 1", ALONE, "start 1 3", 1);
        Bound.taken("11: 4", ALONE, "start 4 3", 4);
        for (String workers : new String[] {"0", "5", "-1", "min", "max"}) {
            Bound.refused("11: workers", ALONE, "start " + workers + " 3", Bound.NONE);
            Bound.refused("11: workers, after a job", ENDED, "start " + workers + " 3", Bound.NONE);
        }
    }

    /** Promise 11: NONE: memory isn't 3 .. 8. */
    private static void startMemory() {
        Bound.taken("11: 3", ALONE, "start 1 3", 1);
        Bound.taken("11: 8", ALONE, "start 1 8", 1);
        for (String memory : new String[] {"2", "9", "0", "-1", "min", "max"}) {
            Bound.refused("11: memory", ALONE, "start 1 " + memory, Bound.NONE);
            Bound.refused("11: memory, after a job", ENDED, "start 1 " + memory, Bound.NONE);
        }
    }

    /** Promise 11: (The query stays.) */
    private static void startQueryStays() {
        Bound.rows("11: the same again", ENDED + "start 3 3", "1 2 3");
        Bound.rows("11: with more outputs", ENDED + "put c1; output 0; start 3 3", "1,10 2,20 3,30");
        Bound.rows("11: with more conditions", ENDED + "put c0 1 =; where; start 3 3", "1");
        Bound.rows("11: with more rows", ENDED + "row 0 0 0 1; start 3 3", "- 1 2 3");
        Bound.due("11: the outputs are there", ENDED + "output 1", "start 3 3", Bound.NONE);
    }

    /** Promise 11: (the result of an earlier job is gone.) */
    private static void startEarlierResult() {
        Bound.due("11: it is there before", ENDED, "cell 0 0", 1);
        String again = ENDED + "start 2 3";
        for (int what = 0; what <= 3; what++) {
            Bound.due("11: no result", again, "ended " + what, Bound.NONE);
        }
        Bound.due("11: no cell", again, "cell 0 0", 0);
        Bound.due("11: no NULL", ON.replace("row 0 1 10 0", "row 0 1 10 1") + "finish; start 2 3", "missing 0 0", Bound.FALSE);
        Bound.due("11: no ignored DONEs", ON + "serve; pass 0 2; pass 0 0; pass 1 0; pass 0 0; start 1 3; finish", "ended 3", 0);
    }

    /** Promise 11: (A table can be first and second.) */
    private static void startTableWithItself() {
        for (int kind = 1; kind <= 2; kind++) {
            Bound.taken("11: with itself", ROWS + "from " + kind + " 0 0 0 0; put c3; output 0", "start 2 3", 6);
            Bound.rows("11: with itself", ROWS + "from " + kind + " 0 0 0 0; put c3; output 0; start 2 3", "10 20 30");
        }
        Bound.taskRows("11: two scans of it", ROWS + "from 1 0 0 0 0; put c0 1 =; where; put c3 20 <; where; output 1; start 1 3", 1, 1, 1, 1);
    }

    /** Promise 11: ... how many tasks it has (also over tables without rows). */
    private static void startEmptyTables() {
        Bound.taken("11: one empty table", "from 0 0 0 0 0; put c0; output 0", "start 1 3", 1);
        Bound.taken("11: two empty tables, the most tasks", "from 2 0 1 0 0; group 0", "start 4 8", 16);
        Bound.rows("11: no rows", "from 2 0 1 0 0; group 0; start 4 8", "");
    }

    /** Promise 12: NONE: no job is on. */
    private static void passNoJob() {
        for (int how = 0; how <= 2; how++) {
            Bound.refused("12: no job yet", ALONE, "pass 0 " + how, Bound.NONE);
            Bound.refused("12: no job any more", ENDED, "pass 0 " + how, Bound.NONE);
        }
    }

    /** Promise 12: NONE: there is no such message. */
    private static void passNoSuchMessage() {
        for (int how = 0; how <= 2; how++) {
            Bound.taken("12: the first", ON, "pass 0 " + how, 1);
            Bound.taken("12: the last", ON, "pass 1 " + how, 1);
            Bound.refused("12: -1", ON, "pass -1 " + how, Bound.NONE);
            Bound.refused("12: one behind the last", ON, "pass 2 " + how, Bound.NONE);
            Bound.refused("12: none waits", ON + "lose", "pass 0 " + how, Bound.NONE);
            Bound.refused("12: one behind sixty", ON + "fill 60", "pass 60 " + how, Bound.NONE);
            for (String far : FAR) {
                Bound.refused("12: far off", ON, "pass " + far + " " + how, Bound.NONE);
            }
        }
    }

    /** Promise 12: NONE: how isn't 0 .. 2. */
    private static void passHow() {
        for (String how : new String[] {"-1", "3", "min", "max"}) {
            Bound.refused("12: how, of a RUN", ON, "pass 0 " + how, Bound.NONE);
            Bound.refused("12: how, of a DONE", ON + "serve", "pass 1 " + how, Bound.NONE);
            Bound.refused("12: how, sixty wait", ON + "fill 60", "pass 0 " + how, Bound.NONE);
        }
    }

    /** Promise 12: A delivered RUN goes to the end of the worker's queue: 1. */
    private static void passRunIntoTheQueue() {
        String state = ON + "3* tick; ";
        Bound.taken("12: into an empty queue", state, "pass 0 0", 1);
        // Worker 0 gets attempt 1 of task 1, then attempt 0 of task 0.
        Bound.due("12: the first in the queue", state + "pass 3 0; pass 0 0", "work 0", 1);
        Bound.due("12: the end of the queue", state + "pass 3 0; pass 0 0; work 0", "work 0", 0);
        Bound.due("12: it waits no more", state + "pass 3 0", "message -1 0", 3);
        Bound.due("12: the others keep their order", state + "pass 1 0", "message 1 2", 1);
    }

    /** Promise 12: ... 0, if that is full (the message is gone). */
    private static void passRunIntoAFullQueue() {
        String eleven = ON + "fill 14; 11* pass 2 0; ";
        Bound.taken("12: 11 are in it", eleven, "pass 0 0", 1);
        Bound.taken("12: 12 are in it", eleven + "pass 0 0", "pass 1 0", 0);
        Bound.due("12: the message is gone", eleven + "pass 0 0; pass 1 0", "message -1 0", 1);
        Bound.due("12: the other one is left", eleven + "pass 0 0; pass 1 0", "message 0 1", 1);
        Bound.due("12: still 12", eleven + "pass 0 0; pass 1 0", "crash 0", 12);
        Bound.due("12: room after one was worked off", eleven + "pass 0 0; work 0", "pass 1 0", 1);
    }

    /** Promise 12: With a delivered DONE of a task that isn't done the task is done, what becomes ready is sent: 1. */
    private static void passDone() {
        String three = JOINED + "serve; 3* pass 0 0; ";
        Bound.taken("12: a DONE", JOINED + "serve", "pass 0 0", 1);
        Bound.due("12: nothing is ready yet", three, "message -1 0", 1);
        Bound.taken("12: the last scan's", three, "pass 0 0", 1);
        Bound.due("12: both joins are sent", three + "pass 0 0", "message -1 0", 2);
        Bound.due("12: behind what waits", three + "pass 0 2; pass 0 0", "message 1 1", 4);
        Bound.due("12: tasks in order", three + "pass 0 2; pass 0 0", "message 2 1", 5);
        // Task 0's DONE comes of attempt 0, while attempt 1 has been sent.
        Bound.taken("12: a DONE of an earlier attempt", ON + "pass 0 0; 3* tick; work 0", "pass 3 0", 1);
        Bound.due("12: counts, too", ON + "pass 0 0; 3* tick; work 0; pass 3 0", "task 0 3", 1);
    }

    /** Promise 12: of a task that is done it is IGNORED: 0. */
    private static void passDoneOfATaskThatIsDone() {
        String state = ON + "serve; pass 0 2; pass 0 0; ";
        Bound.taken("12: the second DONE", state, "pass 1 0", 0);
        Bound.due("12: it is gone", state + "pass 1 0", "message -1 0", 1);
        Bound.due("12: it was counted", state + "pass 1 0; pass 0 0", "ended 3", 1);
        Bound.due("12: the other way round", state + "pass 0 0", "ended 3", 0);
        String joins = JOINED + "serve; pass 0 2; 4* pass 0 0; ";
        Bound.due("12: joins are sent once", joins + "pass 0 0", "task 4 2", 1);
        Bound.due("12: not again by an ignored DONE", joins + "pass 0 0", "message -1 0", 2);
    }

    /** Promise 12: ... and the job may end: 1. */
    private static void passLastDone() {
        Bound.taken("12: the last", ON + "serve; pass 0 0", "pass 0 0", 1);
        Bound.due("12: ended", ON + "serve; 2* pass 0 0", "ended 0", 3);
        Bound.due("12: not before", ON + "serve; pass 0 0", "ended 0", Bound.NONE);
        Bound.due("12: with sixty that wait", ON + "serve; pass 0 0; fill 60; pass 59 0", "message -1 0", Bound.NONE);
    }

    /** Promise 12: Lost: 1. */
    private static void passLost() {
        Bound.taken("12: the only one", ALONE + "start 1 3", "pass 0 1", 1);
        Bound.due("12: none waits", ALONE + "start 1 3; pass 0 1", "message -1 0", 0);
        Bound.taken("12: one of sixty", ON + "fill 60", "pass 59 1", 1);
        Bound.due("12: no queue has it", ALONE + "start 1 3; pass 0 1", "work 0", Bound.NONE);
        Bound.taken("12: a DONE", ON + "serve", "pass 0 1", 1);
        Bound.due("12: the task isn't done", ON + "serve; pass 0 1", "task 0 3", 0);
    }

    /** Promise 12: sends it once more (behind all others; the first one stays). */
    private static void passSentOnceMore() {
        Bound.taken("12: a RUN", ON, "pass 0 2", 1);
        Bound.due("12: three wait", ON + "pass 0 2", "message -1 0", 3);
        Bound.due("12: the first one stays", ON + "pass 0 2", "message 0 1", 0);
        Bound.due("12: behind all others", ON + "pass 0 2", "message 2 1", 0);
        Bound.due("12: its attempt", ON + "3* tick; pass 2 2", "message 4 2", 1);
        Bound.due("12: its worker", ON + "3* tick; pass 2 2", "message 4 3", 1);
        Bound.due("12: no new attempt", ON + "pass 0 2", "task 0 2", 1);
        Bound.taken("12: a DONE", ON + "serve", "pass 1 2", 1);
        Bound.due("12: a DONE's kind", ON + "serve; pass 1 2", "message 2 0", 1);
    }

    /** Promise 12: Sent once more: 1; FULL, if 60 or more wait. */
    private static void passSentOnceMoreFull() {
        Bound.taken("12: 59 wait", ON + "fill 59", "pass 58 2", 1);
        Bound.refused("12: 60 wait", ON + "fill 60", "pass 0 2", Bound.FULL);
        Bound.refused("12: 60 wait, the last", ON + "fill 60", "pass 59 2", Bound.FULL);
        Bound.refused("12: 60 wait, a DONE", ON + "serve; fill 60", "pass 1 2", Bound.FULL);
        Bound.taken("12: one of 60 was lost", ON + "fill 60; pass 0 1", "pass 0 2", 1);
        Bound.refused("12: 63 wait", sixtyThree(), "pass 62 2", Bound.FULL);
    }

    /** Four workers; the last scan's DONE was delivered while 60 waited, so that 59 and 4 joins wait. */
    private static String sixtyThree() {
        return ROWS + "from 1 0 1 0 0; output 1; start 4 3; serve; 7* pass 0 0; fill 60; pass 0 0";
    }

    /** Promise 12: ... what becomes ready is sent (no limit is told for these). */
    private static void passReadyBeyondSixty() {
        Bound.due("12: the joins are sent", sixtyThree(), "message -1 0", 63);
        Bound.due("12: the first join", sixtyThree(), "message 59 1", 8);
        Bound.due("12: the last join", sixtyThree(), "message 62 1", 11);
        Bound.taken("12: it can be delivered", sixtyThree(), "pass 62 0", 1);
        Bound.refused("12: 63 is the first that isn't there", sixtyThree(), "pass 63 0", Bound.NONE);
    }

    /** Promise 13: NONE: no job is on. */
    private static void workNoJob() {
        Bound.refused("13: no job yet", ALONE, "work 0", Bound.NONE);
        Bound.refused("13: no job any more", ENDED, "work 0", Bound.NONE);
        Bound.refused("13: it ended with RUNs in a queue", ON + "pass 0 2; serve; fill 10; pass 0 0; pass 0 0", "work 0", Bound.NONE);
    }

    /** Promise 13: NONE: there is no such worker. */
    private static void workNoSuchWorker() {
        for (int w = 1; w <= 4; w++) {
            String state = ALONE + "start " + w + " 3; " + w + "* pass 0 0";
            Bound.taken("13: the last worker", state, "work " + (w - 1), w - 1);
            Bound.refused("13: one behind the last", state, "work " + w, Bound.NONE);
            Bound.refused("13: worker -1", state, "work -1", Bound.NONE);
        }
        for (String far : FAR) {
            Bound.refused("13: far off", ON + "2* pass 0 0", "work " + far, Bound.NONE);
        }
        // Worker 1 had a RUN in an earlier job with more workers.
        Bound.refused("13: a worker of an earlier job", ENDED + "start 1 3; pass 0 0", "work 1", Bound.NONE);
    }

    /** Promise 13: NONE: its queue is empty. */
    private static void workEmptyQueue() {
        Bound.refused("13: nothing was delivered", ON, "work 0", Bound.NONE);
        Bound.refused("13: another worker's RUN", ON + "pass 0 0", "work 1", Bound.NONE);
        Bound.taken("13: its own", ON + "pass 0 0", "work 0", 0);
        Bound.refused("13: it was worked off", ON + "pass 0 0; work 0", "work 0", Bound.NONE);
        Bound.refused("13: it crashed", ON + "pass 0 0; crash 0", "work 0", Bound.NONE);
        Bound.refused("13: empty, and 60 wait", ON + "fill 60", "work 0", Bound.NONE);
    }

    /** Promise 13: FULL, doing nothing: 60 or more messages wait. */
    private static void workFull() {
        String state = ON + "pass 0 2; pass 0 0; ";
        Bound.taken("13: 59 wait", state + "fill 59", "work 0", 0);
        Bound.due("13: then it is the 60th", state + "fill 59; work 0", "message 59 0", 1);
        Bound.refused("13: 60 wait", state + "fill 60", "work 0", Bound.FULL);
        Bound.taken("13: one of 60 was lost", state + "fill 60; pass 5 1", "work 0", 0);
        Bound.refused("13: 62 wait", sixtyThree() + "; pass 62 0", "work 3", Bound.FULL);
    }

    /** Promise 13: The worker takes the first RUN off its queue, does the task and sends DONE for it, with its attempt. */
    private static void workSendsDone() {
        String state = ON + "3* tick; pass 3 0; pass 0 0; ";
        Bound.taken("13: the task's number", state, "work 0", 1);
        Bound.due("13: behind all others", state + "work 0", "message 2 0", 1);
        Bound.due("13: its task", state + "work 0", "message 2 1", 1);
        Bound.due("13: its attempt", state + "work 0", "message 2 2", 1);
        Bound.due("13: the task isn't done by that", state + "work 0", "task 1 3", 0);
        String done = ON + "pass 0 2; pass 0 0; pass 1 0; work 0; pass 1 0; ";
        Bound.due("13: a task that is done", done, "task 0 3", 1);
        Bound.taken("13: is done once more", done, "work 0", 0);
        Bound.due("13: that DONE is ignored", done + "work 0", "pass 1 0", 0);
    }

    /** Promise 14: NONE: no job is on. */
    private static void crashNoJob() {
        Bound.refused("14: no job yet", ALONE, "crash 0", Bound.NONE);
        Bound.refused("14: no job any more", ENDED, "crash 0", Bound.NONE);
    }

    /** Promise 14: NONE: ... or there is no such worker. */
    private static void crashNoSuchWorker() {
        for (int w = 1; w <= 4; w++) {
            String state = ALONE + "start " + w + " 3; " + w + "* pass 0 0";
            Bound.taken("14: the last worker", state, "crash " + (w - 1), 1);
            Bound.refused("14: one behind the last", state, "crash " + w, Bound.NONE);
            Bound.refused("14: worker -1", state, "crash -1", Bound.NONE);
        }
        for (String far : FAR) {
            Bound.refused("14: far off", ON + "2* pass 0 0", "crash " + far, Bound.NONE);
        }
    }

    /** Promise 14: The worker's queue becomes empty: how many RUNs were in it. */
    private static void crashQueue() {
        Bound.refused("14: none", ON, "crash 0", 0);
        Bound.refused("14: another worker's", ON + "pass 0 0", "crash 1", 0);
        Bound.taken("14: one", ON + "pass 0 0", "crash 0", 1);
        Bound.taken("14: twelve", ON + "fill 15; 12* pass 2 0", "crash 0", 12);
        Bound.refused("14: none any more", ON + "fill 15; 12* pass 2 0; crash 0", "crash 0", 0);
        Bound.due("14: it is empty", ON + "pass 0 0; crash 0", "work 0", Bound.NONE);
        Bound.due("14: room for twelve again", ON + "fill 27; 12* pass 2 0; crash 0; 12* pass 2 0", "crash 0", 12);
        Bound.due("14: the other queue stays", ON + "2* pass 0 0; crash 0", "work 1", 1);
        Bound.due("14: what waits stays", ON + "pass 0 0; crash 0", "message -1 0", 1);
        Bound.taken("14: with sixty that wait", ON + "pass 0 2; pass 0 0; fill 60", "crash 0", 1);
    }

    /** Promise 15: NONE: no job is on. */
    private static void tickNoJob() {
        Bound.refused("15: no job yet", ALONE, "tick", Bound.NONE);
        Bound.refused("15: no job any more", ENDED, "tick", Bound.NONE);
        Bound.due("15: the next job's time", ON + "2* tick; finish; start 2 3; tick", "tick", 0);
        Bound.due("15: begins with its own RUNs", ON + "2* tick; finish; start 2 3; 2* tick", "tick", 2);
    }

    /** Promise 15: ... whose latest RUN was sent 3 or more ago, RUN is sent for its next attempt: how many were. */
    private static void tickThreeAgo() {
        Bound.taken("15: 1 ago", ON, "tick", 0);
        Bound.taken("15: 2 ago", ON + "tick", "tick", 0);
        Bound.taken("15: 3 ago", ON + "2* tick", "tick", 2);
        Bound.due("15: 1 ago again", ON + "3* tick", "tick", 0);
        Bound.due("15: 2 ago again", ON + "4* tick", "tick", 0);
        Bound.due("15: 3 ago again", ON + "5* tick", "tick", 2);
        Bound.due("15: the next attempt", ON + "5* tick", "task 0 2", 2);
        Bound.due("15: the next attempt", ON + "6* tick", "task 0 2", 3);
        Bound.due("15: whether it was lost", ON + "2* tick; lose", "tick", 2);
        Bound.due("15: or was delivered", ON + "2* pass 0 0; 2* tick", "tick", 2);
        Bound.due("15: or its DONE waits", ON + "serve; 2* tick", "tick", 2);
        Bound.due("15: or its worker crashed", ON + "2* pass 0 0; crash 0; crash 1; 2* tick", "tick", 2);
        String joins = JOINED + "2* tick; serve; 4* pass 0 0; ";
        Bound.due("15: joins, 1 ago", joins, "tick", 0);
        Bound.due("15: joins, 2 ago", joins + "tick", "tick", 0);
        Bound.due("15: joins, 3 ago", joins + "2* tick", "tick", 2);
    }

    /** Promise 15: ... (by the coordinator, not one sent once more). */
    private static void tickCopiesDoNotCount() {
        Bound.due("15: a copy of now", ON + "2* tick; pass 0 2", "tick", 2);
        Bound.due("15: a copy doesn't make it late", ON + "pass 0 2; tick", "tick", 0);
        Bound.due("15: a copy is no attempt", ON + "pass 0 2; 3* tick", "task 0 2", 2);
    }

    /** Promise 15: ... for each task, by number, for which a RUN was sent, which isn't done. */
    private static void tickDoneOrNotSent() {
        String state = ON + "serve; pass 0 0; ";
        Bound.due("15: one is done", state + "2* tick", "tick", 1);
        Bound.due("15: not that", state + "3* tick", "task 0 2", 1);
        Bound.due("15: the other", state + "3* tick", "task 1 2", 2);
        Bound.due("15: scans alone", JOINED + "2* tick", "tick", 4);
        for (int t = 0; t < 8; t++) {
            Bound.due("15: scans alone", JOINED + "3* tick", "task " + t + " 2", t < 4 ? 2 : 0);
        }
        for (int k = 0; k < 4; k++) {
            Bound.due("15: by number", JOINED + "3* tick", "message " + (4 + k) + " 1", k);
        }
        Bound.due("15: all scans done, joins sent again", JOINED + "serve; 4* pass 0 0; 2* tick", "tick", 2);
    }

    /** Promise 15: RUN is sent for its next attempt, if fewer than 60 messages wait. */
    private static void tickFewerThanSixty() {
        Bound.taken("15: 58 wait", ON + "fill 58; 2* tick", "tick", 2);
        Bound.taken("15: 59 wait", ON + "fill 59; 2* tick", "tick", 1);
        Bound.due("15: the first one's", ON + "fill 59; 3* tick", "message 59 1", 0);
        Bound.due("15: no attempt of the other", ON + "fill 59; 3* tick", "task 1 2", 1);
        Bound.due("15: which is still due", ON + "fill 59; 3* tick; pass 0 1", "tick", 1);
        Bound.due("15: and is sent then", ON + "fill 59; 3* tick; pass 0 1; tick", "task 1 2", 2);
        Bound.due("15: 60 wait", ON + "fill 60; 2* tick", "tick", 0);
        Bound.due("15: no attempt", ON + "fill 60; 3* tick", "task 0 2", 1);
        Bound.due("15: 63 wait", sixtyThree() + "; 2* tick", "tick", 0);
    }

    /** Promise 15: Time grows by 1 (also if 60 messages wait). */
    private static void tickTimeGrowsWithSixty() {
        Bound.taken("15: 60 wait", ON + "fill 60", "tick", 0);
        Bound.due("15: 2 ago", ON + "fill 60; tick; lose", "tick", 0);
        Bound.due("15: 3 ago", ON + "fill 60; 2* tick; lose", "tick", 2);
        Bound.due("15: 4 ago", ON + "fill 60; 3* tick; lose", "tick", 2);
    }

    /** Promise 16: NONE: no job is on. */
    private static void messageNoJob() {
        for (String call : new String[] {"message -1 0", "message 0 0", "message 0 3", "message -1 9"}) {
            Bound.refused("16: no job yet", ALONE, call, Bound.NONE);
            Bound.refused("16: no job any more", ENDED, call, Bound.NONE);
        }
    }

    /** Promise 16: With k = -1: how many wait, whatever what is. */
    private static void messageHowMany() {
        for (String what : new String[] {"0", "3", "-1", "4", "min", "max"}) {
            Bound.refused("16: two", ON, "message -1 " + what, 2);
            Bound.refused("16: none", ON + "lose", "message -1 " + what, 0);
            Bound.refused("16: sixty", ON + "fill 60", "message -1 " + what, 60);
        }
        Bound.refused("16: sixty-three", sixtyThree(), "message -1 0", 63);
    }

    /** Promise 16: NONE: there is no such message. */
    private static void messageNoSuch() {
        for (int what = 0; what <= 3; what++) {
            Bound.refused("16: -2", ON, "message -2 " + what, Bound.NONE);
            Bound.refused("16: one behind the last", ON, "message 2 " + what, Bound.NONE);
            Bound.refused("16: none waits", ON + "lose", "message 0 " + what, Bound.NONE);
            Bound.refused("16: one behind sixty", ON + "fill 60", "message 60 " + what, Bound.NONE);
            for (String far : FAR) {
                Bound.refused("16: far off", ON, "message " + far + " " + what, Bound.NONE);
            }
        }
        Bound.refused("16: the first", ON, "message 0 1", 0);
        Bound.refused("16: the last", ON, "message 1 1", 1);
        Bound.refused("16: the sixtieth", ON + "fill 60", "message 59 1", 0);
        Bound.refused("16: the sixty-third", sixtyThree(), "message 62 1", 11);
        Bound.refused("16: one behind it", sixtyThree(), "message 63 1", Bound.NONE);
    }

    /** Promise 16: what 0 its kind, 1 its task, 2 its attempt, 3 the worker or how many rows; NONE: what isn't 0 .. 3. */
    private static void messageWhat() {
        int[] run = {0, 1, 1, 0};
        int[] done = {1, 0, 0, 2};
        for (int what = 0; what <= 3; what++) {
            Bound.refused("16: of a RUN", ON + "3* tick", "message 3 " + what, run[what]);
            Bound.refused("16: of a DONE", ON + "serve", "message 0 " + what, done[what]);
        }
        for (String what : new String[] {"-1", "4", "min", "max"}) {
            Bound.refused("16: what, of a RUN", ON, "message 0 " + what, Bound.NONE);
            Bound.refused("16: what, of a DONE", ON + "serve", "message 0 " + what, Bound.NONE);
        }
        Bound.refused("16: a DONE of a task without rows", "from 0 0 0 0 0; put c0; output 0; start 1 3; serve", "message 0 3", 0);
        Bound.refused("16: a DONE of 144 rows", "12* row 0 1 1 0; from 1 0 0 0 0; put c0; output 0; start 1 3; serve; 2* pass 0 0; serve",
            "message 0 3", 144);
    }

    /** Promise 17: NONE: there was no job. */
    private static void taskNoJob() {
        for (int what = 0; what <= 4; what++) {
            Bound.refused("17: no job", ALONE, "task 0 " + what, Bound.NONE);
            Bound.refused("17: one that did not start", ALONE + "number 1", "task 0 " + what, Bound.NONE);
        }
    }

    /** Promise 17: NONE: there is no such task. */
    private static void taskNoSuch() {
        for (String state : new String[] {ON, ENDED}) {
            Bound.refused("17: the first", state, "task 0 1", 0);
            Bound.refused("17: the last", state, "task 1 1", 1);
            for (int what = 0; what <= 4; what++) {
                Bound.refused("17: -1", state, "task -1 " + what, Bound.NONE);
                Bound.refused("17: one behind the last", state, "task 2 " + what, Bound.NONE);
            }
            for (String far : FAR) {
                Bound.refused("17: far off", state, "task " + far + " 0", Bound.NONE);
            }
        }
        String most = ROWS + "from 1 0 1 0 0; output 1; start 4 3";
        Bound.refused("17: the last of the most", most, "task 15 0", 3);
        Bound.refused("17: one behind the most", most, "task 16 0", Bound.NONE);
    }

    /** Promise 17: NONE: what isn't 0 .. 4. */
    private static void taskWhat() {
        int[] wait = {0, 1, 1, 0, Bound.NONE};
        int[] done = {0, 1, 1, 1, 1};
        for (int what = 0; what <= 4; what++) {
            Bound.refused("17: what", ON, "task 1 " + what, wait[what]);
            Bound.refused("17: what, of one that is done", ENDED, "task 1 " + what, done[what]);
        }
        for (String what : new String[] {"-1", "5", "min", "max"}) {
            Bound.refused("17: what", ON, "task 1 " + what, Bound.NONE);
            Bound.refused("17: what, of one that is done", ENDED, "task 1 " + what, Bound.NONE);
        }
    }

    /** Promise 17: 3 whether it is done (1 or 0), 4 how many rows it has (NONE if it isn't done). */
    private static void taskRowsOnlyIfDone() {
        Bound.refused("17: its DONE waits", ON + "serve", "task 0 4", Bound.NONE);
        Bound.refused("17: its DONE waits", ON + "serve", "task 0 3", 0);
        Bound.refused("17: it is done", ON + "serve; pass 0 0", "task 0 4", 2);
        Bound.refused("17: it is done", ON + "serve; pass 0 0", "task 0 3", 1);
        Bound.refused("17: the other isn't", ON + "serve; pass 0 0", "task 1 4", Bound.NONE);
        Bound.refused("17: no rows", "from 0 0 0 0 0; put c0; output 0; start 1 3; finish", "task 0 4", 0);
        Bound.refused("17: its DONE was lost", ON + "serve; pass 0 1", "task 0 4", Bound.NONE);
    }

    /** Promise 17: 2 how many attempts were sent. */
    private static void taskAttempts() {
        Bound.refused("17: not ready", JOINED, "task 4 2", 0);
        Bound.refused("17: one", JOINED, "task 3 2", 1);
        Bound.refused("17: two", JOINED + "3* tick", "task 3 2", 2);
        Bound.refused("17: lost ones count", JOINED + "lose", "task 3 2", 1);
        Bound.refused("17: when it has ended", ON + "6* tick; finish", "task 1 2", 3);
    }

    /** Promise 17: Of a task of the job that is on, or of the latest one that ended. */
    private static void taskOfTheLatest() {
        Bound.refused("17: ended", ENDED, "task 0 4", 2);
        Bound.refused("17: ended, another query", ENDED + "from 1 0 1 0 0; put c3; output 0", "task 0 4", 2);
        Bound.refused("17: ended, more rows", ENDED + "row 0 9 9 0", "task 1 4", 1);
        Bound.refused("17: a new one is on", ENDED + "start 2 3", "task 0 4", Bound.NONE);
        Bound.refused("17: a new one is on", ENDED + "start 2 3", "task 0 3", 0);
        Bound.refused("17: with fewer tasks", ENDED + "start 1 3", "task 1 0", Bound.NONE);
        Bound.refused("17: with more tasks", ENDED + "start 4 3", "task 3 1", 3);
        Bound.refused("17: attempts begin anew", ON + "6* tick; finish; start 2 3", "task 1 2", 1);
    }
}
