import java.util.ArrayDeque;
import java.util.ArrayList;
import java.util.Collections;
import java.util.Deque;
import java.util.HashSet;
import java.util.List;
import java.util.NoSuchElementException;

/**
 * The document once more, written down as its words go: nodes are objects, updates and scripts
 * are recursive, and what an update would do is found by doing it on a copy. It shares no way of
 * working with the program, so that a slip in one of them shows as a difference.
 */
public final class Model {
    private static final int LIMIT = 1000000;

    private static final class Node {
        int number;
        int a;
        int b;
        Node left;
        Node right;
        long sum;
        long least;
        long greatest;
        long f = 1;
        long g = 0;

        Node(int number, int a, int b, List<Long> values) {
            this.number = number;
            this.a = a;
            this.b = b;
            if (a == b) {
                sum = values.get(a);
                least = sum;
                greatest = sum;
            } else {
                int m = Math.floorDiv(a + b, 2);
                left = new Node(2 * number, a, m, values);
                right = new Node(2 * number + 1, m + 1, b, values);
                compute();
            }
        }

        Node(Node other) {
            number = other.number;
            a = other.a;
            b = other.b;
            sum = other.sum;
            least = other.least;
            greatest = other.greatest;
            f = other.f;
            g = other.g;
            if (other.left != null) {
                left = new Node(other.left);
                right = new Node(other.right);
            }
        }

        void compute() {
            sum = left.sum + right.sum;
            least = Math.min(left.least, right.least);
            greatest = Math.max(left.greatest, right.greatest);
        }

        boolean empty() {
            return f == 1 && g == 0;
        }

        void apply(long p, long q) {
            long x = p * least + q;
            long y = p * greatest + q;
            sum = p * sum + q * (b - a + 1);
            least = Math.min(x, y);
            greatest = Math.max(x, y);
            if (left != null) {
                g = p * g + q;
                f = p * f;
            }
        }

        long element(int index) {
            if (left == null) {
                return sum;
            }
            return f * (index <= left.b ? left : right).element(index) + g;
        }

        Node find(int wanted) {
            if (number == wanted) {
                return this;
            }
            if (left == null) {
                return null;
            }
            Node found = left.find(wanted);
            return found != null ? found : right.find(wanted);
        }

        void collect(List<Node> all) {
            all.add(this);
            if (left != null) {
                left.collect(all);
                right.collect(all);
            }
        }

        int levels() {
            return left == null ? 1 : 1 + Math.max(left.levels(), right.levels());
        }
    }

    private static final class State {
        Node root;
        int updates;
        int pushes;
        int applied;
        // Where the latest update arrived, and where its mark was applied.
        int visited;
        List<Integer> appliedTo = new ArrayList<>();

        State(List<Long> values) {
            root = new Node(1, 0, values.size() - 1, values);
        }

        State(State other) {
            root = new Node(other.root);
            updates = other.updates;
            pushes = other.pushes;
            applied = other.applied;
        }

        List<Long> elements() {
            List<Long> all = new ArrayList<>();
            for (int i = 0; i <= root.b; i++) {
                all.add(root.element(i));
            }
            return all;
        }

        boolean push(Node node) {
            if (node.empty()) {
                return false;
            }
            node.left.apply(node.f, node.g);
            node.right.apply(node.f, node.g);
            node.f = 1;
            node.g = 0;
            pushes++;
            return true;
        }

        int update(int from, int to, long p, long q) {
            visited = 0;
            appliedTo.clear();
            walk(root, from, to, p, q);
            updates++;
            applied += appliedTo.size();
            return appliedTo.size();
        }

        private void walk(Node node, int from, int to, long p, long q) {
            visited++;
            if (from <= node.a && node.b <= to) {
                node.apply(p, q);
                appliedTo.add(node.number);
                return;
            }
            push(node);
            if (node.left.b >= from && node.left.a <= to) {
                walk(node.left, from, to, p, q);
            }
            if (node.right.b >= from && node.right.a <= to) {
                walk(node.right, from, to, p, q);
            }
            node.compute();
        }

        int pushAll() {
            List<Node> all = new ArrayList<>();
            root.collect(all);
            all.sort((x, y) -> Integer.compare(x.number, y.number));
            int count = 0;
            for (Node node : all) {
                if (node.left != null && push(node)) {
                    count++;
                }
            }
            return count;
        }

        void rebuild(List<Long> values) {
            root = new Node(1, 0, values.size() - 1, values);
        }

        boolean canAdd(int from, int to, int amount) {
            for (long element : elements().subList(from, to + 1)) {
                if (Math.abs(element + amount) > LIMIT) {
                    return false;
                }
            }
            return true;
        }
    }

    private State state;
    private final Deque<State> past = new ArrayDeque<>();
    private State snapshot;
    private final StringBuilder input = new StringBuilder();
    private int errorKind = 0;
    private int errorOffset = -1;
    private String report = "";

    public Model() {
        state = new ModelScript("sequence 5 -2 7 7 0 3 -1 4 9 -6; add 1 6 2; assign 3 4 8; negate 0 4; add 0 9 1;").run();
    }

    public int append(int a, int b, int c, int d, int e) {
        if (input.length() > 580) {
            return -1;
        }
        for (int part : new int[] {a, b, c, d, e}) {
            input.append((char) (part >>> 24)).append((char) (part >>> 16 & 255));
            input.append((char) (part >>> 8 & 255)).append((char) (part & 255));
        }
        return input.length();
    }

    public int truncateInput(int length) {
        refuse(length < 0 || length > input.length());
        input.setLength(length);
        return length;
    }

    public int runScript() {
        String text = input.toString();
        input.setLength(0);
        try {
            State made = new ModelScript(text).run();
            remember();
            state = made;
            errorKind = 0;
            errorOffset = -1;
            return elementCount();
        } catch (ScriptError e) {
            errorKind = e.kind;
            errorOffset = e.offset;
            return -1;
        }
    }

    public int assign(int from, int to, int value) {
        range(from, to);
        refuse(Math.abs((long) value) > 9999);
        remember();
        return state.update(from, to, 0, value);
    }

    public int add(int from, int to, int amount) {
        if (!canAdd(from, to, amount)) {
            throw new IllegalStateException();
        }
        remember();
        return state.update(from, to, 1, amount);
    }

    public int negate(int from, int to) {
        range(from, to);
        remember();
        return state.update(from, to, -1, 0);
    }

    public boolean pushDown(int node) {
        Node found = node(node);
        if (found.left == null) {
            throw new IllegalStateException();
        }
        remember();
        return state.push(node(node));
    }

    public int pushAll() {
        remember();
        return state.pushAll();
    }

    public int appendElement(int value) {
        refuse(Math.abs((long) value) > 9999);
        List<Long> all = state.elements();
        if (all.size() == 40) {
            throw new IllegalStateException();
        }
        remember();
        all.add((long) value);
        state.rebuild(all);
        return all.size();
    }

    public int removeLast() {
        List<Long> all = state.elements();
        if (all.size() == 1) {
            throw new IllegalStateException();
        }
        remember();
        long removed = all.remove(all.size() - 1);
        state.rebuild(all);
        return (int) removed;
    }

    public int undo() {
        if (past.isEmpty()) {
            return -1;
        }
        state = past.removeLast();
        return past.size();
    }

    public int undoCount() {
        return past.size();
    }

    public int saveSnapshot() {
        snapshot = new State(state);
        return elementCount();
    }

    public int restoreSnapshot() {
        if (snapshot == null) {
            throw new NoSuchElementException();
        }
        state = new State(snapshot);
        past.clear();
        return elementCount();
    }

    public int scriptErrorKind() {
        return errorKind;
    }

    public int scriptErrorOffset() {
        return errorOffset;
    }

    public int elementCount() {
        return state.root.b + 1;
    }

    public int element(int index) {
        return at(index);
    }

    public long sum(int from, int to) {
        return part(from, to).stream().mapToLong(x -> x).sum();
    }

    public int least(int from, int to) {
        return (int) (long) Collections.min(part(from, to));
    }

    public int greatest(int from, int to) {
        return (int) (long) Collections.max(part(from, to));
    }

    public int firstLeast(int from, int to) {
        return from + part(from, to).indexOf((long) least(from, to));
    }

    public int firstGreatest(int from, int to) {
        return from + part(from, to).indexOf((long) greatest(from, to));
    }

    public int leastCount(int from, int to) {
        return Collections.frequency(part(from, to), (long) least(from, to));
    }

    public int greatestCount(int from, int to) {
        return Collections.frequency(part(from, to), (long) greatest(from, to));
    }

    public int runCount(int from, int to) {
        List<Long> part = part(from, to);
        int runs = 0;
        for (int i = 0; i < part.size(); i++) {
            if (i == 0 || !part.get(i).equals(part.get(i - 1))) {
                runs++;
            }
        }
        return runs;
    }

    public boolean isAscending(int from, int to) {
        List<Long> sorted = part(from, to);
        Collections.sort(sorted);
        return sorted.equals(part(from, to));
    }

    public boolean isDescending(int from, int to) {
        List<Long> sorted = part(from, to);
        sorted.sort(Collections.reverseOrder());
        return sorted.equals(part(from, to));
    }

    public int steepestStep(int from, int to) {
        List<Long> part = part(from, to);
        long best = 0;
        for (int i = 1; i < part.size(); i++) {
            best = Math.max(best, Math.abs(part.get(i) - part.get(i - 1)));
        }
        return (int) best;
    }

    public double mean(int from, int to) {
        return (double) sum(from, to) / (to - from + 1);
    }

    public float greatestShare(int from, int to) {
        return (float) greatestCount(from, to) / (to - from + 1);
    }

    public int firstAtLeast(int from, int bound) {
        at(from);
        for (int i = from; i < elementCount(); i++) {
            if (at(i) >= bound) {
                return i;
            }
        }
        return -1;
    }

    public int firstBelow(int from, int bound) {
        at(from);
        for (int i = from; i < elementCount(); i++) {
            if (at(i) < bound) {
                return i;
            }
        }
        return -1;
    }

    public int lastAtLeast(int to, int bound) {
        at(to);
        for (int i = to; i >= 0; i--) {
            if (at(i) >= bound) {
                return i;
            }
        }
        return -1;
    }

    public int longestRun(int value) {
        List<Long> all = state.elements();
        for (int length = all.size(); length > 0; length--) {
            if (Collections.indexOfSubList(all, Collections.nCopies(length, (long) value)) >= 0) {
                return length;
            }
        }
        return 0;
    }

    public int occurrence(int value, int number) {
        List<Integer> places = new ArrayList<>();
        for (int i = 0; i < elementCount(); i++) {
            if (at(i) == value) {
                places.add(i);
            }
        }
        return number >= 0 && number < places.size() ? places.get(number) : -1;
    }

    public int prefixAtLeast(long total) {
        for (int i = 0; i < elementCount(); i++) {
            if (sum(0, i) >= total) {
                return i;
            }
        }
        return -1;
    }

    public int distinctCount(int from, int to) {
        return new HashSet<>(part(from, to)).size();
    }

    public int nodeCount() {
        return nodes().size();
    }

    public int depth() {
        return state.root.levels();
    }

    public int leafOf(int index) {
        at(index);
        for (Node node : nodes()) {
            if (node.a == index && node.b == index) {
                return node.number;
            }
        }
        throw new AssertionError();
    }

    public boolean isLeaf(int node) {
        return node(node).a == node(node).b;
    }

    public int firstIndex(int node) {
        return node(node).a;
    }

    public int lastIndex(int node) {
        return node(node).b;
    }

    public long storedSum(int node) {
        return node(node).sum;
    }

    public int storedLeast(int node) {
        return (int) node(node).least;
    }

    public int storedGreatest(int node) {
        return (int) node(node).greatest;
    }

    public int markFactor(int node) {
        return (int) node(node).f;
    }

    public int markOffset(int node) {
        return (int) node(node).g;
    }

    public int markedNodes() {
        return (int) nodes().stream().filter(node -> !node.empty()).count();
    }

    public int marksAbove(int index) {
        at(index);
        return (int) nodes().stream()
                .filter(node -> node.a <= index && index <= node.b && !node.empty()).count();
    }

    public int appliedFor(int from, int to) {
        return tried(from, to).appliedTo.size();
    }

    public int appliedNode(int from, int to, int position) {
        List<Integer> numbers = tried(from, to).appliedTo;
        return position >= 0 && position < numbers.size() ? numbers.get(position) : -1;
    }

    public int visitedFor(int from, int to) {
        return tried(from, to).visited;
    }

    public int pushesFor(int from, int to) {
        return tried(from, to).pushes - state.pushes;
    }

    public boolean canAdd(int from, int to, int amount) {
        range(from, to);
        refuse(Math.abs((long) amount) > 9999);
        return state.canAdd(from, to, amount);
    }

    public int greatestAddition(int from, int to) {
        range(from, to);
        for (int amount = 9999; ; amount--) {
            if (state.canAdd(from, to, amount)) {
                return amount;
            }
        }
    }

    public long totalIfAssigned(int from, int to, int value) {
        range(from, to);
        refuse(Math.abs((long) value) > 9999);
        State copy = new State(state);
        copy.update(from, to, 0, value);
        return copy.root.sum;
    }

    public int updateCount() {
        return state.updates;
    }

    public int pushCount() {
        return state.pushes;
    }

    public int appliedCount() {
        return state.applied;
    }

    public int violations() {
        return 0;
    }

    public int writeRange(int from, int to) {
        StringBuilder text = new StringBuilder();
        for (long element : part(from, to)) {
            text.append(text.length() == 0 ? "" : ",").append(element);
        }
        report = text.toString();
        return report.length();
    }

    public int reportByte(int index) {
        return index >= 0 && index < report.length() ? report.charAt(index) : -1;
    }

    private void remember() {
        past.addLast(new State(state));
        if (past.size() > 8) {
            past.removeFirst();
        }
    }

    private static void refuse(boolean wrong) {
        if (wrong) {
            throw new IllegalArgumentException();
        }
    }

    private int at(int index) {
        if (index < 0 || index > state.root.b) {
            throw new IndexOutOfBoundsException();
        }
        return (int) state.root.element(index);
    }

    private void range(int from, int to) {
        at(from);
        at(to);
        refuse(to < from);
    }

    private List<Long> part(int from, int to) {
        range(from, to);
        return new ArrayList<>(state.elements().subList(from, to + 1));
    }

    private List<Node> nodes() {
        List<Node> all = new ArrayList<>();
        state.root.collect(all);
        return all;
    }

    private Node node(int number) {
        Node found = state.root.find(number);
        if (found == null) {
            throw new IndexOutOfBoundsException();
        }
        return found;
    }

    private State tried(int from, int to) {
        range(from, to);
        State copy = new State(state);
        copy.update(from, to, 1, 0);
        return copy;
    }

    private static final class ScriptError extends RuntimeException {
        private static final long serialVersionUID = 1L;
        final int kind;
        final int offset;

        ScriptError(int kind, int offset) {
            this.kind = kind;
            this.offset = offset;
        }
    }

    /** Reads its tokens from the text itself, and goes through a repeat's parentheses by recursion. */
    private static final class ModelScript {
        private final String text;
        private int at = 0;
        private int executed = 0;
        private State made;

        ModelScript(String text) {
            this.text = text;
        }

        State run() {
            if (!"sequence".equals(next())) {
                throw error(1);
            }
            List<Long> values = new ArrayList<>();
            take();
            do {
                long sign = 1;
                if (next().equals("-")) {
                    take();
                    sign = -1;
                }
                number();
                if (values.size() == 40) {
                    throw error(3);
                }
                values.add(sign * Long.parseLong(take()));
            } while (!next().equals(";"));
            take();
            made = new State(values);
            while (!next().isEmpty()) {
                command(0);
            }
            return made;
        }

        private void command(int repeats) {
            String word = next();
            switch (word) {
                case "repeat":
                    if (repeats == 3) {
                        throw error(5);
                    }
                    take();
                    repeat(repeats);
                    break;
                case "assign": case "add": case "negate": case "push": case "settle": case "append": case "remove":
                    if (executed == 200) {
                        throw error(6);
                    }
                    take();
                    single(word);
                    executed++;
                    break;
                default:
                    throw error(1);
            }
            end(true);
        }

        private void repeat(int repeats) {
            int times = bounded(1, 20);
            if (!next().equals("(")) {
                throw error(1);
            }
            take();
            int body = at;
            for (int i = 0; i < times; i++) {
                at = body;
                while (!next().equals(")")) {
                    command(repeats + 1);
                }
            }
            take();
        }

        // Looks at the semicolon, which command() takes.
        private void end(boolean allowed) {
            if (!next().equals(";")) {
                throw error(1);
            }
            if (!allowed) {
                throw error(4);
            }
            take();
        }

        private void semicolon(boolean allowed) {
            int before = at;
            end(allowed);
            at = before;
        }

        private void single(String word) {
            int last = made.root.b;
            if (word.equals("settle")) {
                semicolon(true);
                made.pushAll();
            } else if (word.equals("remove")) {
                semicolon(last > 0);
                List<Long> all = made.elements();
                all.remove(last);
                made.rebuild(all);
            } else if (word.equals("append")) {
                long value = value();
                semicolon(last < 39);
                List<Long> all = made.elements();
                all.add(value);
                made.rebuild(all);
            } else if (word.equals("push")) {
                number();
                Node node = made.root.find(Integer.parseInt(next()));
                if (node == null) {
                    throw error(2);
                }
                take();
                semicolon(node.left != null);
                made.push(node);
            } else {
                int from = bounded(0, last);
                int to = bounded(from, last);
                int value = word.equals("negate") ? 0 : value();
                semicolon(!word.equals("add") || made.canAdd(from, to, value));
                made.update(from, to, word.equals("add") ? 1 : word.equals("negate") ? -1 : 0, value);
            }
        }

        private int value() {
            int sign = 1;
            if (next().equals("-")) {
                take();
                sign = -1;
            }
            number();
            return sign * Integer.parseInt(take());
        }

        private int bounded(int low, int high) {
            number();
            int number = Integer.parseInt(next());
            if (number < low || number > high) {
                throw error(2);
            }
            take();
            return number;
        }

        private void number() {
            if (!next().matches("[0-9]{1,4}")) {
                throw error(1);
            }
        }

        private ScriptError error(int kind) {
            next();
            return new ScriptError(kind, at);
        }

        /** The token that is next, empty at the end of the text. */
        private String next() {
            while (at < text.length() && (text.charAt(at) == 32 || text.charAt(at) == 10)) {
                at++;
            }
            int end = at;
            while (end < text.length() && text.charAt(end) >= 'a' && text.charAt(end) <= 'z') {
                end++;
            }
            if (end == at) {
                while (end < text.length() && text.charAt(end) >= '0' && text.charAt(end) <= '9') {
                    end++;
                }
            }
            if (end == at && end < text.length()) {
                end++;
            }
            return text.substring(at, end);
        }

        private String take() {
            String token = next();
            at += token.length();
            return token;
        }
    }
}
