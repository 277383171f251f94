import java.util.List;

/** What the boundary tests ask: the last call that is taken, the first that is refused, and what is there then. */
final class Bound {
    static final int NONE = QueryFleet.NONE;
    static final int FULL = QueryFleet.FULL;
    static final int FALSE = 0;
    static final int TRUE = 1;

    private Bound() {
    }

    /** The call answers so, and changes something. */
    static void taken(String sentence, String state, String call, long want) {
        due(sentence, state, call, want);
        boolean same = Probe.after(state, null).equals(Probe.after(state, call));
        Check.due(sentence + ": " + call + " changed nothing behind " + state + ", it", same, false);
    }

    /** The call answers so, and all that can be seen afterwards is what would be seen without it. */
    static void refused(String sentence, String state, String call, long want) {
        due(sentence, state, call, want);
        List<String> before = Probe.after(state, null);
        List<String> after = Probe.after(state, call);
        for (int i = 0; i < before.size(); i++) {
            if (!before.get(i).equals(after.get(i))) {
                Check.due(sentence + ": " + call + " changed something behind " + state, true, false);
                System.out.println("  without it: " + before.get(i));
                System.out.println("  with it:    " + after.get(i));
            }
        }
    }

    /** The call answers so, whether or not it changes something. */
    static void due(String sentence, String state, String call, long want) {
        Check.due(sentence + ": " + call + " behind " + state, Script.call(Script.state(state), call), want);
    }

    /** The job that the calls start ends with these rows, as Check.rows writes them. */
    static void rows(String sentence, String state, String want) {
        QueryFleet x = Script.state(state);
        Check.finish(x);
        Check.dueRows(sentence + ": " + state, x, want);
    }

    /** The job that the calls start ends with so many rows in its tasks, by number. */
    static void taskRows(String sentence, String state, int... want) {
        QueryFleet x = Script.state(state);
        Check.finish(x);
        for (int t = 0; t < want.length; t++) {
            Check.due(sentence + ": rows of task " + t + " behind " + state, x.task(t, 4), want[t]);
        }
        Check.due(sentence + ": no more tasks behind " + state, x.task(want.length, 0), NONE);
    }
}
