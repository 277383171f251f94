import java.util.Arrays;

/**
 * Calls written as text and parted by ";", so that a test can bring many objects into one state.
 * A call is its name and its arguments ("pass 0 2"); min and max stand for the ends of int, up and down
 * for order's direction. "5* tick" is five calls. Besides the calls of the face there are
 * "put c0 3 <" (an expression as Check.put reads it), "fill 60" (copies of message 0 until so many wait),
 * "lose" (all that waits), "serve" (delivers all that waits, then works all queues off) and "finish".
 */
final class Script {
    private Script() {
    }

    /** A new object in the state that the calls make; none of them may be refused. */
    static QueryFleet state(String calls) {
        QueryFleet x = new QueryFleet();
        for (String call : calls.split(";")) {
            if (!call.isBlank()) {
                takeAll(x, call.trim());
            }
        }
        return x;
    }

    private static void takeAll(QueryFleet x, String call) {
        int star = call.indexOf('*');
        boolean repeated = star > 0 && call.substring(0, star).chars().allMatch(Character::isDigit);
        int times = repeated ? Integer.parseInt(call.substring(0, star)) : 1;
        String once = repeated ? call.substring(star + 1).trim() : call;
        for (int i = 0; i < times; i++) {
            long answer = call(x, once);
            Check.due("taken while a state is made: " + call, isRefusal(once, answer), false);
        }
    }

    private static boolean isRefusal(String call, long answer) {
        String name = call.split(" ")[0];
        boolean truth = Arrays.asList("from", "column", "number", "operate", "where", "output", "group", "order", "put").contains(name);
        return truth ? answer == 0 : answer < 0 && !name.equals("cell");
    }

    /** What the call answers; a boolean counts 1 or 0. */
    static long call(QueryFleet x, String call) {
        String name = call.split(" ")[0];
        switch (name) {
            case "put":
                return asNumber(Check.put(x, call.substring(4)));
            case "fill":
                return fill(x, Integer.parseInt(call.substring(5)));
            case "lose":
                return lose(x);
            case "serve":
                Check.deliverAndWork(x);
                return 0;
            case "finish":
                Check.finish(x);
                return 0;
            default:
                return callFace(x, name, arguments(call));
        }
    }

    private static long asNumber(boolean answer) {
        return answer ? 1 : 0;
    }

    private static long fill(QueryFleet x, int want) {
        for (int waiting = x.message(-1, 0); waiting < want; waiting++) {
            if (x.pass(0, 2) != 1) {
                return QueryFleet.NONE;
            }
        }
        return x.message(-1, 0) == want ? 1 : QueryFleet.NONE;
    }

    private static long lose(QueryFleet x) {
        int waiting = x.message(-1, 0);
        for (int i = 0; i < waiting; i++) {
            x.pass(0, 1);
        }
        return waiting;
    }

    private static int[] arguments(String call) {
        String[] words = call.split(" +");
        int[] made = new int[words.length - 1];
        for (int i = 0; i < made.length; i++) {
            made[i] = argument(words[i + 1]);
        }
        return made;
    }

    private static int argument(String word) {
        switch (word) {
            case "min":
                return Integer.MIN_VALUE;
            case "max":
                return Integer.MAX_VALUE;
            case "up":
                return 0;
            case "down":
                return 1;
            default:
                return Integer.parseInt(word);
        }
    }

    private static long callFace(QueryFleet x, String name, int[] a) {
        switch (name) {
            case "row":
                return x.row(a[0], a[1], a[2], a[3]);
            case "from":
                return asNumber(x.from(a[0], a[1], a[2], a[3], a[4]));
            case "column":
                return asNumber(x.column(a[0]));
            case "number":
                return asNumber(x.number(a[0]));
            case "operate":
                return asNumber(x.operate(a[0]));
            case "where":
                return asNumber(x.where());
            case "output":
                return asNumber(x.output(a[0]));
            case "group":
                return asNumber(x.group(a[0]));
            case "order":
                return asNumber(x.order(a[0], a[1] == 1, a[2]));
            case "start":
                return x.start(a[0], a[1]);
            case "pass":
                return x.pass(a[0], a[1]);
            case "work":
                return x.work(a[0]);
            case "crash":
                return x.crash(a[0]);
            case "tick":
                return x.tick();
            case "message":
                return x.message(a[0], a[1]);
            case "task":
                return x.task(a[0], a[1]);
            case "ended":
                return x.ended(a[0]);
            case "cell":
                return x.cell(a[0], a[1]);
            case "missing":
                return asNumber(x.missing(a[0], a[1]));
            default:
                throw new IllegalArgumentException("no such call: " + name);
        }
    }
}
