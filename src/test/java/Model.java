import java.math.BigInteger;
import java.util.ArrayList;
import java.util.Comparator;
import java.util.List;
import java.util.TreeSet;

/**
 * The document a second time, written apart from the program and without its limits on objects: tasks
 * really take the rows of the tasks before them, and the result is put together from the last ones.
 */
final class Model {
    static final int NONE = -1;
    static final int FULL = -2;
    private static final Comparator<Long> VALUES = Comparator.nullsFirst(Comparator.naturalOrder());

    private record Node(int code, long value, Node p, Node q) {
        int parts() {
            return 1 + (p == null ? 0 : p.parts()) + (q == null ? 0 : q.parts());
        }

        boolean truth() {
            return code >= 4 && code <= 9;
        }

        boolean names(int least, int most) {
            boolean here = code == 10 && value >= least && value <= most;
            return here || (p != null && p.names(least, most)) || (q != null && q.names(least, most));
        }

        /** A Long, a Boolean, or null for NULL and UNKNOWN. */
        Object of(List<Long> row) {
            if (code == 11) {
                return value;
            }
            if (code == 10) {
                return row.get((int) value);
            }
            Object a = p.of(row);
            if (code == 9) {
                return a == null;
            }
            if (code == 8) {
                return a == null ? null : !(Boolean) a;
            }
            Object b = q.of(row);
            if (code == 6 || code == 7) {
                Boolean strong = code == 7;
                if (strong.equals(a) || strong.equals(b)) {
                    return strong;
                }
                return a == null || b == null ? null : !strong;
            }
            return a == null || b == null ? null : calculate(BigInteger.valueOf((Long) a), BigInteger.valueOf((Long) b));
        }

        private Object calculate(BigInteger a, BigInteger b) {
            switch (code) {
                case 0:
                    return asLong(a.add(b));
                case 1:
                    return asLong(a.subtract(b));
                case 2:
                    return asLong(a.multiply(b));
                case 3:
                    return b.signum() == 0 ? null : asLong(a.divide(b));
                case 4:
                    return a.equals(b);
                default:
                    return a.compareTo(b) < 0;
            }
        }
    }

    private record Output(int kind, Node of) {
    }

    private record Message(int kind, int task, int attempt) {
    }

    private static final class Task {
        int kind;
        int part;
        int attempts;
        int sentAt;
        boolean done;
        List<List<Long>> rows;
    }

    private final List<List<List<Long>>> tables = List.of(new ArrayList<>(), new ArrayList<>(), new ArrayList<>());
    private boolean begun;
    private int kind;
    private int first;
    private int second;
    private int left;
    private int right;
    private final List<Node> stack = new ArrayList<>();
    private final List<Node> conditions = new ArrayList<>();
    private final List<Output> outputs = new ArrayList<>();
    private Integer group;
    private int orderColumn;
    private boolean down;
    private int limit = -1;

    private boolean on;
    private int workers;
    private int memory;
    private int time;
    private int ignored;
    private List<Task> tasks;
    private final List<Message> waiting = new ArrayList<>();
    private final List<List<Message>> queues = new ArrayList<>();
    private List<List<Long>> result;
    private int total;
    private int width;

    private static Long asLong(BigInteger value) {
        return value.bitLength() > 63 ? null : Long.valueOf(value.longValue());
    }

    int row(int table, int x, int y, int nulls) {
        if (on || table < 0 || table > 2 || nulls < 0 || nulls > 3) {
            return NONE;
        }
        List<List<Long>> rows = tables.get(table);
        if (rows.size() == 12) {
            return FULL;
        }
        List<Long> made = new ArrayList<>();
        made.add(nulls % 2 == 1 ? null : Long.valueOf(x));
        made.add(nulls / 2 == 1 ? null : Long.valueOf(y));
        rows.add(made);
        return rows.size();
    }

    boolean from(int kind, int first, int second, int left, int right) {
        if (on || kind < 0 || kind > 2 || first < 0 || first > 2) {
            return false;
        }
        if (kind > 0 && (second < 0 || second > 2 || left < 0 || left > 1 || right < 0 || right > 1)) {
            return false;
        }
        this.kind = kind;
        this.first = first;
        this.second = second;
        this.left = left;
        this.right = right;
        begun = true;
        stack.clear();
        conditions.clear();
        outputs.clear();
        group = null;
        orderColumn = 0;
        down = false;
        limit = -1;
        return true;
    }

    private boolean hasColumn(int c) {
        return c >= 0 && c < (kind == 0 ? 2 : 4);
    }

    private boolean push(Node node) {
        return stack.size() < 8 && stack.add(node);
    }

    boolean column(int c) {
        return !on && begun && hasColumn(c) && push(new Node(10, c, null, null));
    }

    boolean number(int v) {
        return !on && begun && push(new Node(11, v, null, null));
    }

    boolean operate(int op) {
        if (on || !begun || op < 0 || op > 9) {
            return false;
        }
        int size = stack.size();
        int needed = op >= 8 ? 1 : 2;
        if (size < needed) {
            return false;
        }
        Node p = stack.get(size - needed);
        Node q = needed == 1 ? null : stack.get(size - 1);
        boolean truths = op == 6 || op == 7 || op == 8;
        if (p.truth() != truths || (q != null && q.truth() != truths)) {
            return false;
        }
        Node made = new Node(op, 0, p, q);
        if (made.parts() > 24) {
            return false;
        }
        stack.subList(size - needed, size).clear();
        stack.add(made);
        return true;
    }

    boolean where() {
        if (on || !begun || stack.size() != 1 || !stack.get(0).truth() || conditions.size() == 6) {
            return false;
        }
        return conditions.add(stack.remove(0));
    }

    boolean output(int kind) {
        if (on || !begun || kind < 0 || kind > 5 || outputs.size() == 3) {
            return false;
        }
        if (kind == 1) {
            return stack.isEmpty() && outputs.add(new Output(1, null));
        }
        if (stack.size() != 1 || stack.get(0).truth()) {
            return false;
        }
        return outputs.add(new Output(kind, stack.remove(0)));
    }

    boolean group(int c) {
        if (on || !begun || !hasColumn(c)) {
            return false;
        }
        group = c;
        return true;
    }

    boolean order(int column, boolean down, int limit) {
        if (on || !begun || column < 0 || column > 3) {
            return false;
        }
        this.orderColumn = column;
        this.down = down;
        this.limit = limit;
        return true;
    }

    private boolean isWhole() {
        boolean plain = outputs.stream().allMatch(o -> o.kind() == 0);
        boolean aggregates = outputs.stream().allMatch(o -> o.kind() != 0);
        boolean some = !outputs.isEmpty();
        return (plain && some && group == null) || (aggregates && (some || group != null));
    }

    private boolean isAggregate() {
        return outputs.isEmpty() || outputs.get(0).kind() != 0;
    }

    int start(int workers, int memory) {
        if (on || !begun || !isWhole() || !stack.isEmpty()) {
            return NONE;
        }
        if (workers < 1 || workers > 4 || memory < 3 || memory > 8) {
            return NONE;
        }
        this.workers = workers;
        this.memory = memory;
        on = true;
        ignored = 0;
        tasks = new ArrayList<>();
        queues.clear();
        for (int w = 0; w < workers; w++) {
            queues.add(new ArrayList<>());
        }
        addTasks(0);
        if (kind > 0) {
            addTasks(1);
            addTasks(2);
        }
        if (isAggregate()) {
            addTasks(3);
        }
        sendReady();
        return tasks.size();
    }

    private void addTasks(int taskKind) {
        List<List<List<Long>>> rows = new ArrayList<>();
        for (int part = 0; part < workers; part++) {
            rows.add(rowsOf(taskKind, part));
        }
        for (int part = 0; part < workers; part++) {
            Task task = new Task();
            task.kind = taskKind;
            task.part = part;
            task.rows = rows.get(part);
            tasks.add(task);
        }
    }

    private int part(Long value) {
        return value == null ? 0 : BigInteger.valueOf(value).mod(BigInteger.valueOf(workers)).intValue();
    }

    private List<List<Long>> rowsOfKind(int taskKind) {
        List<List<Long>> rows = new ArrayList<>();
        tasks.stream().filter(t -> t.kind == taskKind).forEach(t -> rows.addAll(t.rows));
        return rows;
    }

    private List<List<Long>> rowsOf(int taskKind, int part) {
        switch (taskKind) {
            case 0:
                return scan(tables.get(first), part, 0);
            case 1:
                return scan(tables.get(second), part, 1);
            case 2:
                return join(part);
            default:
                return grouping(part);
        }
    }

    private List<List<Long>> scan(List<List<Long>> table, int part, int which) {
        List<List<Long>> rows = new ArrayList<>();
        for (int r = 0; r < table.size(); r++) {
            if (r % workers != part) {
                continue;
            }
            List<Long> full = new ArrayList<>(which == 1 ? nulls() : table.get(r));
            full.addAll(which == 0 ? nulls() : table.get(r));
            boolean passes = true;
            for (Node condition : conditions) {
                boolean ofFirst = condition.names(0, 1);
                boolean ofSecond = condition.names(2, 3);
                boolean pushed = which == 0 ? !ofSecond : kind == 1 && ofSecond && !ofFirst;
                passes &= !pushed || Boolean.TRUE.equals(condition.of(full));
            }
            if (passes) {
                rows.add(table.get(r));
            }
        }
        return rows;
    }

    private static List<Long> nulls() {
        List<Long> made = new ArrayList<>();
        made.add(null);
        made.add(null);
        return made;
    }

    private List<List<Long>> join(int part) {
        List<List<Long>> rows = new ArrayList<>();
        for (List<Long> a : rowsOfKind(0)) {
            if (part(a.get(left)) != part) {
                continue;
            }
            int pairs = 0;
            for (List<Long> b : rowsOfKind(1)) {
                if (a.get(left) != null && a.get(left).equals(b.get(right))) {
                    pairs++;
                    addIfKept(rows, a, b);
                }
            }
            if (pairs == 0 && kind == 2) {
                addIfKept(rows, a, nulls());
            }
        }
        return rows;
    }

    private void addIfKept(List<List<Long>> rows, List<Long> a, List<Long> b) {
        List<Long> joined = new ArrayList<>(a);
        joined.addAll(b);
        if (conditions.stream().allMatch(c -> Boolean.TRUE.equals(c.of(joined)))) {
            rows.add(joined);
        }
    }

    private List<List<Long>> grouping(int part) {
        List<List<Long>> kept = rowsOfKind(kind == 0 ? 0 : 2);
        List<List<Long>> rows = new ArrayList<>();
        if (group == null) {
            if (part == 0) {
                rows.add(aggregates(kept));
            }
            return rows;
        }
        TreeSet<Long> values = new TreeSet<>(VALUES);
        kept.forEach(row -> values.add(row.get(group)));
        for (Long value : values) {
            if (part(value) == part) {
                List<Long> made = new ArrayList<>();
                made.add(value);
                made.addAll(aggregates(kept.stream().filter(r -> VALUES.compare(r.get(group), value) == 0).toList()));
                rows.add(made);
            }
        }
        return rows;
    }

    private List<Long> aggregates(List<List<Long>> rows) {
        List<Long> made = new ArrayList<>();
        for (Output output : outputs) {
            List<Long> numbers = new ArrayList<>();
            for (List<Long> row : rows) {
                Object number = output.kind() == 1 ? null : output.of().of(row);
                if (number != null) {
                    numbers.add((Long) number);
                }
            }
            made.add(aggregate(output.kind(), rows.size(), numbers));
        }
        return made;
    }

    private static Long aggregate(int kind, int rows, List<Long> numbers) {
        if (kind == 1) {
            return (long) rows;
        }
        if (kind == 2) {
            return (long) numbers.size();
        }
        if (numbers.isEmpty()) {
            return null;
        }
        if (kind == 3) {
            return asLong(numbers.stream().map(BigInteger::valueOf).reduce(BigInteger.ZERO, BigInteger::add));
        }
        return kind == 4 ? numbers.stream().min(VALUES).get() : numbers.stream().max(VALUES).get();
    }

    private void sendReady() {
        for (int t = 0; t < tasks.size(); t++) {
            Task task = tasks.get(t);
            boolean ready = task.kind < 2;
            if (task.kind == 2) {
                ready = tasks.stream().allMatch(o -> o.kind >= 2 || o.done);
            }
            if (task.kind == 3) {
                ready = tasks.stream().allMatch(o -> o.kind == 3 || o.done);
            }
            if (ready && task.attempts == 0) {
                send(t);
            }
        }
    }

    private void send(int t) {
        Task task = tasks.get(t);
        waiting.add(new Message(0, t, task.attempts));
        task.attempts++;
        task.sentAt = time;
    }

    private int worker(Message run) {
        return (tasks.get(run.task()).part + run.attempt()) % workers;
    }

    int pass(int k, int how) {
        if (!on || k < 0 || k >= waiting.size() || how < 0 || how > 2) {
            return NONE;
        }
        if (how == 2) {
            if (waiting.size() >= 60) {
                return FULL;
            }
            waiting.add(waiting.get(k));
            return 1;
        }
        Message message = waiting.remove(k);
        if (how == 1) {
            return 1;
        }
        if (message.kind() == 0) {
            List<Message> queue = queues.get(worker(message));
            return queue.size() < 12 && queue.add(message) ? 1 : 0;
        }
        Task task = tasks.get(message.task());
        if (task.done) {
            ignored++;
            return 0;
        }
        task.done = true;
        sendReady();
        if (tasks.stream().allMatch(t -> t.done)) {
            endJob();
        }
        return 1;
    }

    private void endJob() {
        on = false;
        waiting.clear();
        result = rowsOfKind(tasks.get(tasks.size() - 1).kind);
        width = outputs.size() + (group == null ? 0 : 1);
        if (!isAggregate()) {
            List<List<Long>> plain = new ArrayList<>();
            for (List<Long> row : result) {
                List<Long> made = new ArrayList<>();
                outputs.forEach(o -> made.add((Long) o.of().of(row)));
                plain.add(made);
            }
            result = plain;
        }
        total = result.size();
        int chosen = orderColumn < width ? orderColumn : 0;
        Comparator<List<Long>> order = (a, b) -> VALUES.compare(a.get(chosen), b.get(chosen));
        order = down ? order.reversed() : order;
        for (int c = 0; c < width; c++) {
            int next = c;
            order = order.thenComparing((a, b) -> VALUES.compare(a.get(next), b.get(next)));
        }
        result.sort(order);
        if (limit >= 0 && limit < total) {
            result = result.subList(0, limit);
        }
    }

    int work(int worker) {
        if (!on || worker < 0 || worker >= workers || queues.get(worker).isEmpty()) {
            return NONE;
        }
        if (waiting.size() >= 60) {
            return FULL;
        }
        Message run = queues.get(worker).remove(0);
        waiting.add(new Message(1, run.task(), run.attempt()));
        return run.task();
    }

    int crash(int worker) {
        if (!on || worker < 0 || worker >= workers) {
            return NONE;
        }
        int size = queues.get(worker).size();
        queues.get(worker).clear();
        return size;
    }

    int tick() {
        if (!on) {
            return NONE;
        }
        time++;
        int sent = 0;
        for (int t = 0; t < tasks.size(); t++) {
            Task task = tasks.get(t);
            if (task.attempts > 0 && !task.done && time - task.sentAt >= 3 && waiting.size() < 60) {
                send(t);
                sent++;
            }
        }
        return sent;
    }

    int message(int k, int what) {
        if (!on) {
            return NONE;
        }
        if (k == -1) {
            return waiting.size();
        }
        if (k < 0 || k >= waiting.size() || what < 0 || what > 3) {
            return NONE;
        }
        Message message = waiting.get(k);
        int last = message.kind() == 0 ? worker(message) : tasks.get(message.task()).rows.size();
        return new int[] {message.kind(), message.task(), message.attempt(), last}[what];
    }

    int task(int t, int what) {
        if (tasks == null || t < 0 || t >= tasks.size() || what < 0 || what > 4) {
            return NONE;
        }
        Task task = tasks.get(t);
        int rows = task.done ? task.rows.size() : NONE;
        return new int[] {task.kind, task.part, task.attempts, task.done ? 1 : 0, rows}[what];
    }

    int ended(int what) {
        if (on || tasks == null || what < 0 || what > 3) {
            return NONE;
        }
        return new int[] {result.size(), width, passes(), ignored}[what];
    }

    private int passes() {
        if (total == 0) {
            return 0;
        }
        int passes = 1;
        for (double runs = Math.ceil((double) total / memory); runs > 1; runs = Math.ceil(runs / (memory - 1))) {
            passes++;
        }
        return passes;
    }

    private boolean hasCell(int i, int c) {
        return !on && tasks != null && i >= 0 && i < result.size() && c >= 0 && c < width;
    }

    long cell(int i, int c) {
        return hasCell(i, c) && result.get(i).get(c) != null ? result.get(i).get(c) : 0;
    }

    boolean missing(int i, int c) {
        return hasCell(i, c) && result.get(i).get(c) == null;
    }
}
