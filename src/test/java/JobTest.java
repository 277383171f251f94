/** Promises 11 to 17: jobs, messages, workers and time. */
public final class JobTest {
    private static final int NONE = QueryFleet.NONE;
    private static final int FULL = QueryFleet.FULL;

    private JobTest() {
    }

    public static void main(String[] args) {
        promise11Whole();
        promise11Arguments();
        promise11TasksAndRuns();
        promise11QueryStays();
        promise12Refused();
        promise12RunDelivered();
        promise12QueueFull();
        promise12LostAndSentOnceMore();
        promise12FullOfMessages();
        promise12DoneDelivered();
        promise12ReadyBeyondSixty();
        promise12EndEmptiesQueues();
        promise13Work();
        promise13Full();
        promise14Crash();
        promise15Tick();
        promise15TickAndReadiness();
        promise15TickFull();
        promise16Message();
        promise17Task();
        promise17TaskRows();
        promise17Pushed();
        promise17TaskAfterwards();
        Check.end();
    }

    private static QueryFleet alone() {
        QueryFleet x = new QueryFleet();
        x.row(0, 1, 10, 0);
        x.row(0, 2, 20, 0);
        x.row(0, 3, 30, 0);
        x.from(0, 0, 0, 0, 0);
        Check.output(x, 0, "c0");
        return x;
    }

    /** An inner join with aggregates: 4 * W tasks. */
    private static QueryFleet joined() {
        QueryFleet x = new QueryFleet();
        for (int i = 0; i < 6; i++) {
            x.row(0, i, i * 10, 0);
            x.row(1, i, i * 100, 0);
        }
        x.from(1, 0, 1, 0, 0);
        Check.output(x, 3, "c3");
        x.group(0);
        return x;
    }

    private static void promise11Whole() {
        QueryFleet x = new QueryFleet();
        x.from(0, 0, 0, 0, 0);
        Check.due("11: no outputs, no group", x.start(1, 3), NONE);
        Check.output(x, 0, "c0");
        x.group(0);
        Check.due("11: plain with a group", x.start(1, 3), NONE);
        x.from(0, 0, 0, 0, 0);
        x.output(1);
        Check.output(x, 0, "c0");
        Check.due("11: an aggregate and a plain one", x.start(1, 3), NONE);
        x.from(0, 0, 0, 0, 0);
        Check.output(x, 0, "c0");
        Check.output(x, 0, "c0");
        Check.output(x, 2, "c0");
        Check.due("11: plain ones and an aggregate", x.start(1, 3), NONE);
        x.group(1);
        Check.due("11: and a group", x.start(1, 3), NONE);
        x.from(0, 0, 0, 0, 0);
        Check.output(x, 0, "c0");
        x.number(1);
        Check.due("11: something on the stack", x.start(1, 3), NONE);
        x.operate(9);
        x.where();
        Check.due("11: nothing on the stack", x.start(1, 3), 1);
        Check.finish(x);
        x.from(0, 0, 0, 0, 0);
        x.group(0);
        Check.due("11: a group alone", x.start(1, 3), 2);
    }

    private static void promise11Arguments() {
        QueryFleet x = alone();
        Check.due("11: 0 workers", x.start(0, 3), NONE);
        Check.due("11: 5 workers", x.start(5, 3), NONE);
        Check.due("11: -1 workers", x.start(-1, 3), NONE);
        Check.due("11: memory 2", x.start(1, 2), NONE);
        Check.due("11: memory 9", x.start(1, 9), NONE);
        Check.due("11: no job came of these", x.tick(), NONE);
        Check.due("11: and there was none", x.task(0, 0), NONE);
        Check.due("11: nor has one ended", x.ended(0), NONE);
        Check.due("11: the most of both", x.start(4, 8), 4);
        Check.due("11: a job is on", x.start(4, 8), NONE);
    }

    private static void promise11TasksAndRuns() {
        for (int workers = 1; workers <= 4; workers++) {
            for (int joins = 0; joins <= 2; joins++) {
                for (int aggregates = 0; aggregates <= 1; aggregates++) {
                    QueryFleet x = new QueryFleet();
                    x.from(joins, 0, 1, 0, 0);
                    if (aggregates == 1) {
                        x.output(1);
                    } else {
                        Check.output(x, 0, "c0");
                    }
                    int kinds = (joins > 0 ? 3 : 1) + aggregates;
                    Check.due("11: tasks", x.start(workers, 3), kinds * workers);
                    int scans = (joins > 0 ? 2 : 1) * workers;
                    Check.due("11: first RUNs", x.message(-1, 0), scans);
                    for (int k = 0; k < scans; k++) {
                        Check.due("11: RUN", x.message(k, 0), 0);
                        Check.due("11: RUN of task", x.message(k, 1), k);
                        Check.due("11: first attempt", x.message(k, 2), 0);
                        Check.due("11: to the part's worker", x.message(k, 3), k % workers);
                    }
                    int[] order = joins > 0 ? new int[] {0, 1, 2, 3} : new int[] {0, 3};
                    for (int t = 0; t < kinds * workers; t++) {
                        Check.due("17: kind", x.task(t, 0), order[t / workers]);
                        Check.due("17: part", x.task(t, 1), t % workers);
                        Check.due("17: attempts", x.task(t, 2), t < scans ? 1 : 0);
                        Check.due("17: done", x.task(t, 3), 0);
                        Check.due("17: rows", x.task(t, 4), NONE);
                    }
                    Check.due("17: one more", x.task(kinds * workers, 0), NONE);
                }
            }
        }
    }

    private static void promise11QueryStays() {
        QueryFleet x = alone();
        x.start(2, 3);
        Check.finish(x);
        Check.due("11: a result", x.ended(0), 3);
        Check.due("11: a wrong start changes nothing", x.start(9, 3), NONE);
        Check.due("11: the result is there", x.cell(0, 0), 1);
        Check.where(x, "1 c0 <");
        Check.due("11: the query stays", x.start(2, 3), 2);
        Check.due("11: the result is gone", x.ended(0), NONE);
        Check.due("11: the cells, too", x.cell(0, 0), 0);
        Check.finish(x);
        Check.dueRows("11: with one more condition", x, "2 3");
        x.row(0, 9, 9, 0);
        Check.dueRows("11: later rows don't count", x, "2 3");
        x.from(0, 1, 0, 0, 0);
        Check.dueRows("11: nor a later query", x, "2 3");
    }

    private static void promise12Refused() {
        QueryFleet x = alone();
        Check.due("12: no job", x.pass(0, 0), NONE);
        x.start(2, 3);
        Check.due("12: message -1", x.pass(-1, 0), NONE);
        Check.due("12: message 2", x.pass(2, 0), NONE);
        Check.due("12: how -1", x.pass(0, -1), NONE);
        Check.due("12: how 3", x.pass(0, 3), NONE);
        Check.due("12: nothing was changed", x.message(-1, 0), 2);
        Check.finish(x);
        Check.due("12: no job any more", x.pass(0, 0), NONE);
    }

    private static void promise12RunDelivered() {
        QueryFleet x = alone();
        x.start(3, 3);
        Check.due("12: the middle one", x.pass(1, 0), 1);
        Check.due("12: two wait", x.message(-1, 0), 2);
        Check.due("12: task 0 first", x.message(0, 1), 0);
        Check.due("12: then task 2", x.message(1, 1), 2);
        Check.due("12: worker 0 has none", x.work(0), NONE);
        Check.due("12: worker 1 has it", x.work(1), 1);
        Check.due("12: DONE is the last", x.message(2, 0), 1);
        x.pass(0, 2);
        x.tick();
        x.tick();
        x.tick();
        Check.due("12: the copy, not the new attempt", x.message(3, 2), 0);
        x.pass(3, 0);
        Check.due("12: a copy goes where the first one goes", x.work(0), 0);
        Check.due("12: its attempt", x.message(x.message(-1, 0) - 1, 2), 0);
    }

    private static void promise12QueueFull() {
        QueryFleet x = alone();
        x.start(1, 3);
        for (int i = 0; i < 13; i++) {
            Check.due("12: once more", x.pass(0, 2), 1);
        }
        for (int i = 0; i < 12; i++) {
            Check.due("12: into the queue", x.pass(0, 0), 1);
        }
        Check.due("12: the queue is full", x.pass(0, 0), 0);
        Check.due("12: that message is gone", x.message(-1, 0), 1);
        x.work(0);
        Check.due("12: room again", x.pass(0, 0), 1);
        Check.due("14: twelve are in it", x.crash(0), 12);
    }

    private static void promise12LostAndSentOnceMore() {
        QueryFleet x = alone();
        x.start(4, 3);
        Check.due("12: once more", x.pass(1, 2), 1);
        Check.due("12: five wait", x.message(-1, 0), 5);
        Check.due("12: the first one stays", x.message(1, 1), 1);
        Check.due("12: the other is behind all", x.message(4, 1), 1);
        Check.due("12: with its attempt", x.message(4, 2), 0);
        Check.due("12: no attempt of the coordinator", x.task(1, 2), 1);
        Check.due("12: lost", x.pass(1, 1), 1);
        Check.due("12: four wait", x.message(-1, 0), 4);
        Check.due("12: the next one is in its place", x.message(1, 1), 2);
        Check.due("12: no queue has it", x.work(1), NONE);
    }

    private static void promise12FullOfMessages() {
        QueryFleet x = alone();
        x.start(2, 3);
        for (int i = 0; i < 58; i++) {
            Check.due("12: once more", x.pass(i % 2, 2), 1);
        }
        Check.due("12: sixty wait", x.message(-1, 0), 60);
        Check.due("12: full", x.pass(0, 2), FULL);
        Check.due("12: no such message comes first", x.pass(60, 2), NONE);
        Check.due("12: still sixty", x.message(-1, 0), 60);
        Check.due("12: losing one is fine", x.pass(59, 1), 1);
        Check.due("12: once more again", x.pass(0, 2), 1);
        Check.due("12: full again", x.pass(0, 2), FULL);
    }

    private static void promise12DoneDelivered() {
        QueryFleet x = joined();
        x.start(2, 3);
        Check.deliverAndWork(x);
        Check.due("12: four DONEs", x.message(-1, 0), 4);
        Check.due("12: once more", x.pass(0, 2), 1);
        Check.due("12: task 0 is done", x.pass(0, 0), 1);
        Check.due("12: done", x.task(0, 3), 1);
        Check.due("12: again, ignored", x.pass(3, 0), 0);
        Check.due("12: it is gone", x.message(-1, 0), 3);
        Check.due("12: two scans left", x.pass(0, 0), 1);
        Check.due("12: one scan left", x.pass(0, 0), 1);
        Check.due("12: joins not ready yet", x.task(4, 2), 0);
        Check.due("12: the last scan", x.pass(0, 0), 1);
        Check.due("12: two joins were sent", x.message(-1, 0), 2);
        Check.due("12: the first join", x.message(0, 1), 4);
        Check.due("12: the second join", x.message(1, 1), 5);
        Check.due("12: groupings not ready yet", x.task(6, 2), 0);
        Check.deliverAndWork(x);
        x.pass(1, 0);
        Check.due("12: still not ready", x.task(6, 2), 0);
        x.pass(0, 0);
        Check.due("12: groupings were sent", x.message(0, 1), 6);
        Check.due("12: both", x.message(1, 1), 7);
        Check.deliverAndWork(x);
        x.pass(0, 2);
        Check.due("12: one grouping is done", x.pass(0, 0), 1);
        Check.due("12: the job is on", x.ended(0), NONE);
        Check.due("12: the last one", x.pass(0, 0), 1);
        Check.due("12: the job ended", x.message(-1, 0), NONE);
        Check.due("18: one was ignored, another is gone", x.ended(3), 1);
        Check.dueRows("12: the result is there", x, "0,0 1,100 2,200 3,300 4,400 5,500");
        x.start(1, 3);
        Check.due("12: no message of the earlier job", x.message(-1, 0), 2);
        Check.finish(x);
        Check.due("18: the count begins anew", x.ended(3), 0);
    }

    private static void promise12ReadyBeyondSixty() {
        QueryFleet x = joined();
        x.start(4, 3);
        Check.deliverAndWork(x);
        for (int i = 0; i < 7; i++) {
            x.pass(0, 0);
        }
        while (x.pass(0, 2) != FULL) {
            Check.due("12: fewer than sixty wait", x.message(-1, 0) <= 60, true);
        }
        Check.due("12: the last scan, sixty wait", x.pass(0, 0), 1);
        Check.due("12: the joins were sent", x.message(-1, 0), 63);
        Check.due("12: the last one is task 11", x.message(62, 1), 11);
        Check.due("12: with more than sixty", x.pass(62, 2), FULL);
        Check.due("12: RUN delivered", x.pass(62, 0), 1);
        Check.due("13: with more than sixty", x.work(3), FULL);
    }

    private static void promise12EndEmptiesQueues() {
        QueryFleet x = alone();
        x.start(2, 3);
        x.pass(0, 2);
        x.pass(1, 2);
        Check.deliverAndWork(x);
        x.pass(0, 0);
        x.pass(1, 2);
        x.tick();
        x.tick();
        Check.due("15: one more RUN", x.tick(), 1);
        x.pass(x.message(-1, 0) - 1, 0);
        for (int i = 0; i < 4; i++) {
            x.pass(0, 0);
        }
        Check.due("12: the job ended", x.ended(0), 3);
        x.start(2, 3);
        Check.due("12: the queues are gone", x.crash(0), 0);
        Check.due("12: the queues are gone", x.work(1), NONE);
        Check.due("12: only the new RUNs", x.message(-1, 0), 2);
    }

    private static void promise13Work() {
        QueryFleet x = alone();
        Check.due("13: no job", x.work(0), NONE);
        x.start(2, 3);
        Check.due("13: worker -1", x.work(-1), NONE);
        Check.due("13: worker 2", x.work(2), NONE);
        Check.due("13: an empty queue", x.work(0), NONE);
        x.tick();
        x.tick();
        x.tick();
        x.pass(3, 0);
        x.pass(0, 0);
        Check.due("13: the first in the queue", x.work(0), 1);
        Check.due("13: DONE", x.message(2, 0), 1);
        Check.due("13: of the task", x.message(2, 1), 1);
        Check.due("13: with its attempt", x.message(2, 2), 1);
        Check.due("13: then the second", x.work(0), 0);
        Check.due("13: with its attempt", x.message(3, 2), 0);
        Check.due("13: no more", x.work(0), NONE);
        Check.due("13: the task isn't done yet", x.task(0, 3), 0);
        x.pass(2, 0);
        x.pass(0, 0);
        Check.due("13: a task that is done", x.task(1, 3), 1);
        Check.due("13: is done once more", x.work(1), 1);
    }

    private static void promise13Full() {
        QueryFleet x = alone();
        x.start(2, 3);
        x.pass(0, 2);
        x.pass(0, 0);
        for (int i = 0; i < 58; i++) {
            x.pass(0, 2);
        }
        Check.due("13: sixty wait", x.message(-1, 0), 60);
        Check.due("13: full", x.work(0), FULL);
        Check.due("13: an empty queue comes first", x.work(1), NONE);
        Check.due("13: nothing was sent", x.message(-1, 0), 60);
        x.pass(0, 1);
        Check.due("13: nothing was taken off", x.work(0), 0);
    }

    private static void promise14Crash() {
        QueryFleet x = alone();
        Check.due("14: no job", x.crash(0), NONE);
        x.start(3, 3);
        Check.due("14: worker -1", x.crash(-1), NONE);
        Check.due("14: worker 3", x.crash(3), NONE);
        Check.due("14: an empty queue", x.crash(0), 0);
        x.pass(0, 2);
        x.pass(0, 0);
        x.pass(0, 0);
        x.pass(1, 0);
        Check.due("14: two are in it", x.crash(0), 2);
        Check.due("14: it is empty", x.work(0), NONE);
        Check.due("14: again", x.crash(0), 0);
        Check.due("14: the others keep theirs", x.work(1), 1);
        Check.due("14: messages stay", x.message(-1, 0), 2);
        x.tick();
        x.tick();
        x.tick();
        Check.finish(x);
        Check.due("14: no job any more", x.crash(0), NONE);
        Check.dueRows("14: the rows are the same", x, "1 2 3");
    }

    private static void promise15Tick() {
        QueryFleet x = alone();
        Check.due("15: no job", x.tick(), NONE);
        Check.due("15: no job", x.tick(), NONE);
        x.start(2, 3);
        Check.due("15: 1 ago", x.tick(), 0);
        Check.due("15: 2 ago", x.tick(), 0);
        x.pass(0, 2);
        Check.due("15: 3 ago, a copy doesn't count", x.tick(), 2);
        Check.due("15: both were sent", x.message(-1, 0), 5);
        Check.due("15: RUN", x.message(3, 0), 0);
        Check.due("15: of task 0", x.message(3, 1), 0);
        Check.due("15: its next attempt", x.message(3, 2), 1);
        Check.due("15: to the next worker", x.message(3, 3), 1);
        Check.due("15: of task 1", x.message(4, 1), 1);
        Check.due("15: round again", x.message(4, 3), 0);
        Check.due("15: two attempts", x.task(0, 2), 2);
        Check.due("15: 1 ago", x.tick(), 0);
        x.pass(0, 0);
        x.work(0);
        x.pass(x.message(-1, 0) - 1, 0);
        Check.due("15: 2 ago", x.tick(), 0);
        Check.due("15: only the one that isn't done", x.tick(), 1);
        Check.due("15: a third attempt", x.task(1, 2), 3);
        Check.due("15: none of the one that is", x.task(0, 2), 2);
    }

    private static void promise15TickAndReadiness() {
        QueryFleet x = joined();
        x.start(1, 3);
        x.tick();
        x.tick();
        Check.due("15: two scans", x.tick(), 2);
        Check.due("15: not the join", x.task(2, 2), 0);
        Check.deliverAndWork(x);
        x.pass(0, 0);
        x.tick();
        x.tick();
        x.pass(x.message(-1, 0) - 1, 0);
        Check.due("15: the join was sent", x.task(2, 2), 1);
        Check.due("15: 1 ago", x.tick(), 0);
        Check.due("15: 2 ago", x.tick(), 0);
        Check.due("15: 3 ago, counted from its own RUN", x.tick(), 1);
        Check.finish(x);
        Check.due("15: no job any more", x.tick(), NONE);
        x.start(1, 3);
        Check.due("15: a new job, 1 ago", x.tick(), 0);
        Check.due("15: a new job, 2 ago", x.tick(), 0);
        Check.due("15: a new job, 3 ago", x.tick(), 2);
        x = joined();
        Check.due("11: the most tasks", x.start(4, 3), 16);
        x.tick();
        x.tick();
        Check.due("15: all eight scans", x.tick(), 8);
    }

    private static void promise15TickFull() {
        QueryFleet x = alone();
        x.start(3, 3);
        for (int i = 0; i < 56; i++) {
            x.pass(0, 2);
        }
        Check.due("15: 59 wait", x.message(-1, 0), 59);
        x.tick();
        x.tick();
        Check.due("15: room for one", x.tick(), 1);
        Check.due("15: sixty wait", x.message(-1, 0), 60);
        Check.due("15: task 0 was first", x.task(0, 2), 2);
        Check.due("15: not task 1", x.task(1, 2), 1);
        Check.due("15: full, but time goes on", x.tick(), 0);
        Check.due("15: full, but time goes on", x.tick(), 0);
        for (int i = 0; i < 9; i++) {
            x.pass(0, 1);
        }
        Check.due("15: room again, all three are late", x.tick(), 3);
        Check.due("15: task 0", x.task(0, 2), 3);
        Check.due("15: task 1", x.task(1, 2), 2);
    }

    private static void promise16Message() {
        QueryFleet x = alone();
        Check.due("16: no job", x.message(0, 0), NONE);
        Check.due("16: no job, how many", x.message(-1, 0), NONE);
        x.start(2, 3);
        for (int what : new int[] {-7, -1, 0, 3, 4, 99}) {
            Check.due("16: how many, whatever what is", x.message(-1, what), 2);
        }
        Check.due("16: message -2", x.message(-2, 0), NONE);
        Check.due("16: message 2", x.message(2, 0), NONE);
        Check.due("16: what -1", x.message(0, -1), NONE);
        Check.due("16: what 4", x.message(0, 4), NONE);
        Check.due("16: its kind", x.message(1, 0), 0);
        Check.due("16: its task", x.message(1, 1), 1);
        Check.due("16: its attempt", x.message(1, 2), 0);
        Check.due("16: its worker", x.message(1, 3), 1);
        Check.deliverAndWork(x);
        Check.due("16: DONE", x.message(0, 0), 1);
        Check.due("16: rows 0 and 2", x.message(0, 3), 2);
        Check.due("16: row 1", x.message(1, 3), 1);
        Check.finish(x);
        Check.due("16: no job any more", x.message(-1, 0), NONE);
    }

    private static void promise17Task() {
        QueryFleet x = alone();
        Check.due("17: there was no job", x.task(0, 0), NONE);
        x.start(2, 3);
        Check.due("17: task -1", x.task(-1, 0), NONE);
        Check.due("17: task 2", x.task(2, 0), NONE);
        Check.due("17: what -1", x.task(0, -1), NONE);
        Check.due("17: what 5", x.task(0, 5), NONE);
        Check.due("17: its rows aren't known", x.task(0, 4), NONE);
        Check.deliverAndWork(x);
        Check.due("17: not before DONE is delivered", x.task(0, 4), NONE);
        x.pass(0, 0);
        Check.due("17: its rows", x.task(0, 4), 2);
        Check.due("17: done", x.task(0, 3), 1);
        Check.due("17: the other isn't", x.task(1, 3), 0);
        Check.finish(x);
        Check.due("17: after the end", x.task(1, 4), 1);
        Check.due("17: attempts", x.task(1, 2), 1);
    }

    private static void dueTaskRows(String what, QueryFleet x, int... want) {
        for (int t = 0; t < want.length; t++) {
            Check.due(what + ", task " + t, x.task(t, 4), want[t]);
        }
        Check.due(what + ", no more tasks", x.task(want.length, 0), NONE);
    }

    private static void promise17TaskRows() {
        QueryFleet x = new QueryFleet();
        Check.add(x, 0, -1, 7);
        Check.add(x, 0, 4, null);
        Check.add(x, 0, null, 2);
        Check.add(x, 0, -3, -5);
        Check.add(x, 0, 6, 1);
        Check.add(x, 1, -1, 3);
        Check.add(x, 1, -1, 4);
        Check.add(x, 1, null, 5);
        Check.add(x, 1, 4, 6);
        x.from(2, 0, 1, 0, 0);
        x.group(1);
        x.start(3, 3);
        Check.finish(x);
        // Parts: -1 is 2, 4 is 1, NULL is 0, -3 is 0, 6 is 0; of groups 7 is 1, NULL 0, 2 is 2, -5 is 1, 1 is 1.
        dueTaskRows("17: outer", x, 2, 2, 1, 2, 1, 1, 3, 1, 2, 1, 3, 1);
        Check.where(x, "c3 null not");
        x.start(3, 3);
        Check.finish(x);
        dueTaskRows("17: outer, nothing is pushed to the second", x, 2, 2, 1, 2, 1, 1, 0, 1, 2, 1, 1, 0);
        x.from(1, 0, 1, 0, 0);
        Check.output(x, 0, "c0");
        Check.where(x, "3 c3 <");
        Check.where(x, "c1 null not");
        x.start(3, 3);
        Check.finish(x);
        dueTaskRows("17: inner, both are pushed", x, 2, 1, 1, 1, 1, 1, 0, 0, 1);
        Check.where(x, "c0 c2 + 0 <");
        Check.where(x, "1 2 <");
        x.start(3, 3);
        Check.finish(x);
        dueTaskRows("17: inner, of both tables is not pushed", x, 2, 1, 1, 1, 1, 1, 0, 0, 1);
        Check.where(x, "2 1 <");
        x.start(3, 3);
        Check.finish(x);
        dueTaskRows("17: one without columns goes to the first", x, 0, 0, 0, 1, 1, 1, 0, 0, 0);
        x.from(0, 0, 0, 0, 0);
        x.output(1);
        x.start(4, 3);
        Check.finish(x);
        dueTaskRows("17: no group, one row in part 0", x, 2, 1, 1, 1, 1, 0, 0, 0);
    }

    /** Two rows each; the condition is true of one of the two rows of each table that it names. */
    private static void duePushed(int kind, String condition, int first, int second) {
        QueryFleet x = new QueryFleet();
        x.row(0, 1, 1, 0);
        x.row(0, 2, 2, 0);
        x.row(1, 1, 1, 0);
        x.row(1, 2, 2, 0);
        x.from(kind, 0, 1, 0, 0);
        Check.where(x, condition);
        x.group(0);
        x.start(1, 3);
        Check.finish(x);
        dueTaskRows("17: join " + kind + " where " + condition, x, first, second, 1, 1);
    }

    private static void promise17Pushed() {
        for (int kind = 1; kind <= 2; kind++) {
            int ofSecond = kind == 1 ? 1 : 2;
            duePushed(kind, "c0 2 <", 1, 2);
            duePushed(kind, "c1 2 <", 1, 2);
            duePushed(kind, "c1 c0 + 3 <", 1, 2);
            duePushed(kind, "c2 2 <", 2, ofSecond);
            duePushed(kind, "c3 2 <", 2, ofSecond);
            duePushed(kind, "2 c3 c2 * = not c2 2 < and", 2, ofSecond);
            duePushed(kind, "c0 2 < c2 2 < and", 2, 2);
            duePushed(kind, "c0 2 < c3 2 < and", 2, 2);
            duePushed(kind, "c1 2 < c2 2 < and", 2, 2);
            duePushed(kind, "c3 2 < c1 2 < and", 2, 2);
        }
    }

    private static void promise17TaskAfterwards() {
        QueryFleet x = joined();
        x.start(2, 3);
        Check.finish(x);
        x.row(0, 50, 1, 0);
        x.from(0, 2, 0, 0, 0);
        dueTaskRows("17: as they were when it ended", x, 3, 3, 3, 3, 3, 3, 3, 3);
        x.output(1);
        Check.due("17: the next job", x.start(1, 3), 2);
        Check.due("17: the earlier one is gone", x.task(2, 0), NONE);
        Check.due("17: not done", x.task(0, 3), 0);
    }
}
