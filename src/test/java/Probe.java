import java.util.ArrayList;
import java.util.List;

/**
 * Makes the state of an object visible: what further calls answer, in several ways to go on. Two objects
 * for which all of these are alike are in the same state, as far as the document lets it be seen.
 */
final class Probe {
    /** One way to go on; each takes an object of its own, since it changes it. */
    private interface Way {
        void go(Probe seen);
    }

    // Of 144 rows the first ones are enough; an object is good for 512 calls alone.
    private static final int MOST_ROWS = 13;
    private static final Way[] WAYS = {
        Probe::look,
        Probe::letTimePass,
        Probe::workQueuesOff,
        Probe::countQueues,
        Probe::endJob,
        Probe::endJobAndStartAgain,
        Probe::countRoom,
        Probe::startAsItIs,
        Probe::takeStackAsCondition,
        Probe::takeStackAsOutput,
        Probe::countParts,
        Probe::countConditions,
        Probe::countOutputs,
        Probe::groupAndStart,
        Probe::readTables,
    };

    private final QueryFleet x;
    private final StringBuilder text = new StringBuilder();

    private Probe(QueryFleet x) {
        this.x = x;
    }

    /** What is seen of the state that the calls make, with one more call behind them (or none, if it is null). */
    static List<String> after(String state, String last) {
        List<String> seen = new ArrayList<>();
        for (Way way : WAYS) {
            Probe probe = new Probe(Script.state(state));
            if (last != null) {
                Script.call(probe.x, last);
            }
            way.go(probe);
            seen.add(probe.text.toString());
        }
        return seen;
    }

    private void see(String name, long answer) {
        text.append(name).append(' ').append(answer).append(' ');
    }

    private void make(String call) {
        see(call, Script.call(x, call));
    }

    private void repeat(int times, String call) {
        for (int i = 0; i < times; i++) {
            make(call);
        }
    }

    private void look() {
        lookAtMessages();
        lookAtTasks();
        lookAtResult();
    }

    private void lookAtMessages() {
        int waiting = x.message(-1, 0);
        see("waiting", waiting);
        for (int k = 0; k < waiting; k++) {
            for (int what = 0; what <= 3; what++) {
                see("message", x.message(k, what));
            }
        }
    }

    private void lookAtTasks() {
        for (int t = 0; t < 16 && x.task(t, 0) >= 0; t++) {
            for (int what = 0; what <= 4; what++) {
                see("task", x.task(t, what));
            }
        }
    }

    private void lookAtResult() {
        for (int what = 0; what <= 3; what++) {
            see("ended", x.ended(what));
        }
        text.append(Check.rows(x, MOST_ROWS)).append(' ');
    }

    private void letTimePass() {
        Script.call(x, "lose");
        repeat(4, "tick");
        lookAtMessages();
    }

    private void workQueuesOff() {
        Script.call(x, "lose");
        for (int w = 0; w < 4; w++) {
            for (int i = 0; i < 13 && x.work(w) >= 0; i++) {
                text.append("work ").append(w).append(' ');
            }
        }
        lookAtMessages();
    }

    private void countQueues() {
        for (int w = 0; w < 4; w++) {
            see("crash", x.crash(w));
        }
    }

    private void endJob() {
        Check.driveOn(x);
        look();
    }

    private void endJobAndStartAgain() {
        Check.driveOn(x);
        make("start 2 3");
        Check.driveOn(x);
        lookAtResult();
    }

    private void countRoom() {
        for (int table = 0; table < 3; table++) {
            see("row", x.row(table, 5, 6, 0));
        }
        repeat(9, "number 1");
    }

    private void startAsItIs() {
        make("start 3 4");
        Check.driveOn(x);
        lookAtTasks();
        lookAtResult();
    }

    // Whatever is there is made one expression, first the numbers on top, then the truths.
    private void foldStack() {
        repeat(8, "operate 0");
        repeat(8, "operate 6");
    }

    private void takeStackAsCondition() {
        foldStack();
        make("where");
        make("start 1 5");
        make("output 1");
        make("start 1 5");
        Check.driveOn(x);
        lookAtTasks();
        lookAtResult();
    }

    private void takeStackAsOutput() {
        foldStack();
        make("output 0");
        make("output 3");
        make("start 1 5");
        Check.driveOn(x);
        lookAtTasks();
        lookAtResult();
    }

    // How many operations still fit tells how many parts the top has.
    private void countParts() {
        make("operate 9");
        repeat(24, "operate 8");
    }

    private void countConditions() {
        foldStack();
        make("where");
        make("output 0");
        for (int i = 0; i < 7; i++) {
            make("put 1 1 =");
            make("where");
        }
    }

    private void countOutputs() {
        foldStack();
        make("where");
        make("output 0");
        repeat(4, "output 1");
    }

    private void groupAndStart() {
        make("column 3");
        make("output 0");
        make("group 1");
        make("start 4 8");
        Check.driveOn(x);
        lookAtTasks();
        lookAtResult();
    }

    private void readTables() {
        for (int table = 0; table < 3; table++) {
            make("from 0 " + table + " 0 0 0");
            make("put c0");
            make("output 0");
            make("put c1");
            make("output 0");
            make("start 1 3");
            Check.driveOn(x);
            text.append(Check.rows(x, MOST_ROWS)).append(' ');
        }
    }
}
