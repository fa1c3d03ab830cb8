import java.util.Arrays;
import java.util.NoSuchElementException;

/** A segment tree with lazy propagation; DOC.md says what each call of the face promises. */
public final class LazyRangeTree {
    public static final int NONE = -1;

    private static final int MOST_ELEMENTS = 40;
    private static final int ELEMENT_LIMIT = 1000000;
    private static final int VALUE_LIMIT = 9999;
    private static final int MOST_BYTES = 600;
    private static final int BYTES_OF_APPEND = 20;
    private static final int MOST_UNDOS = 8;
    private static final int[] FIRST_VALUES = {5, -2, 7, 7, 0, 3, -1, 4, 9, -6};

    private final Tree tree = new Tree();
    private final History history = new History();
    private final Tree snapshot = new Tree();
    private boolean snapshotSaved = false;
    private final Text input = new Text();
    private final Script script = new Script();
    private final Report report = new Report();

    public LazyRangeTree() {
        tree.build(FIRST_VALUES, FIRST_VALUES.length);
        tree.update(1, 6, Tree.BY_ADDING, 2);
        tree.update(3, 4, Tree.BY_ASSIGNING, 8);
        tree.update(0, 4, Tree.BY_NEGATING, 0);
        tree.update(0, 9, Tree.BY_ADDING, 1);
    }

    // ---- input

    public int append(int a, int b, int c, int d, int e) {
        if (input.length() + BYTES_OF_APPEND > MOST_BYTES) {
            return NONE;
        }
        input.putInt(a);
        input.putInt(b);
        input.putInt(c);
        input.putInt(d);
        input.putInt(e);
        return input.length();
    }

    public int truncateInput(int length) throws IllegalArgumentException {
        if (length < 0 || length > input.length()) {
            throw new IllegalArgumentException("the length is not within the input buffer");
        }
        input.shorten(length);
        return length;
    }

    // ---- changes

    public int runScript() {
        script.run(input);
        input.shorten(0);
        if (script.errorKind() != 0) {
            return NONE;
        }
        history.remember(tree);
        tree.copyFrom(script.result());
        return tree.size();
    }

    public int assign(int from, int to, int value)
            throws IndexOutOfBoundsException, IllegalArgumentException {
        checkRange(from, to);
        checkValue(value);
        history.remember(tree);
        return tree.update(from, to, Tree.BY_ASSIGNING, value);
    }

    public int add(int from, int to, int amount)
            throws IndexOutOfBoundsException, IllegalArgumentException, IllegalStateException {
        checkRange(from, to);
        checkValue(amount);
        if (!tree.canRaise(from, to, amount)) {
            throw new IllegalStateException("an element would be out of range");
        }
        history.remember(tree);
        return tree.update(from, to, Tree.BY_ADDING, amount);
    }

    public int negate(int from, int to)
            throws IndexOutOfBoundsException, IllegalArgumentException {
        checkRange(from, to);
        history.remember(tree);
        return tree.update(from, to, Tree.BY_NEGATING, 0);
    }

    public boolean pushDown(int node) throws IndexOutOfBoundsException, IllegalStateException {
        checkNode(node);
        if (!tree.isInner(node)) {
            throw new IllegalStateException("the node is a leaf");
        }
        history.remember(tree);
        return tree.push(node);
    }

    public int pushAll() {
        history.remember(tree);
        return tree.pushEach();
    }

    public int appendElement(int value) throws IllegalArgumentException, IllegalStateException {
        checkValue(value);
        if (tree.size() >= MOST_ELEMENTS) {
            throw new IllegalStateException("there are 40 elements");
        }
        history.remember(tree);
        tree.extend(value);
        return tree.size();
    }

    public int removeLast() throws IllegalStateException {
        if (tree.size() <= 1) {
            throw new IllegalStateException("there is only one element");
        }
        history.remember(tree);
        int removed = tree.valueAt(tree.size() - 1);
        tree.shorten();
        return removed;
    }

    // ---- undo and the snapshot

    public int undo() {
        return history.takeBack(tree) ? history.count() : NONE;
    }

    public int undoCount() {
        return history.count();
    }

    public int saveSnapshot() {
        snapshot.copyFrom(tree);
        snapshotSaved = true;
        return tree.size();
    }

    public int restoreSnapshot() throws NoSuchElementException {
        if (!snapshotSaved) {
            throw new NoSuchElementException("no snapshot was saved");
        }
        tree.copyFrom(snapshot);
        history.forget();
        return tree.size();
    }

    // ---- the script error

    public int scriptErrorKind() {
        return script.errorKind();
    }

    public int scriptErrorOffset() {
        return script.errorOffset();
    }

    // ---- elements and ranges

    public int elementCount() {
        return tree.size();
    }

    public int element(int index) throws IndexOutOfBoundsException {
        checkIndex(index);
        return tree.valueAt(index);
    }

    public long sum(int from, int to)
            throws IndexOutOfBoundsException, IllegalArgumentException {
        checkRange(from, to);
        return totalOf(from, to);
    }

    public int least(int from, int to)
            throws IndexOutOfBoundsException, IllegalArgumentException {
        checkRange(from, to);
        return tree.leastOf(from, to);
    }

    public int greatest(int from, int to)
            throws IndexOutOfBoundsException, IllegalArgumentException {
        checkRange(from, to);
        return tree.greatestOf(from, to);
    }

    public int firstLeast(int from, int to)
            throws IndexOutOfBoundsException, IllegalArgumentException {
        checkRange(from, to);
        return firstWith(from, to, tree.leastOf(from, to));
    }

    public int firstGreatest(int from, int to)
            throws IndexOutOfBoundsException, IllegalArgumentException {
        checkRange(from, to);
        return firstWith(from, to, tree.greatestOf(from, to));
    }

    public int leastCount(int from, int to)
            throws IndexOutOfBoundsException, IllegalArgumentException {
        checkRange(from, to);
        return countOf(from, to, tree.leastOf(from, to));
    }

    public int greatestCount(int from, int to)
            throws IndexOutOfBoundsException, IllegalArgumentException {
        checkRange(from, to);
        return countOf(from, to, tree.greatestOf(from, to));
    }

    public int runCount(int from, int to)
            throws IndexOutOfBoundsException, IllegalArgumentException {
        checkRange(from, to);
        int runs = 1;
        for (int index = from + 1; index <= to; index++) {
            if (stepTo(index) != 0) {
                runs++;
            }
        }
        return runs;
    }

    public boolean isAscending(int from, int to)
            throws IndexOutOfBoundsException, IllegalArgumentException {
        checkRange(from, to);
        for (int index = from + 1; index <= to; index++) {
            if (stepTo(index) < 0) {
                return false;
            }
        }
        return true;
    }

    public boolean isDescending(int from, int to)
            throws IndexOutOfBoundsException, IllegalArgumentException {
        checkRange(from, to);
        for (int index = from + 1; index <= to; index++) {
            if (stepTo(index) > 0) {
                return false;
            }
        }
        return true;
    }

    public int steepestStep(int from, int to)
            throws IndexOutOfBoundsException, IllegalArgumentException {
        checkRange(from, to);
        int steepest = 0;
        for (int index = from + 1; index <= to; index++) {
            steepest = Math.max(steepest, Math.abs(stepTo(index)));
        }
        return steepest;
    }

    public double mean(int from, int to)
            throws IndexOutOfBoundsException, IllegalArgumentException {
        checkRange(from, to);
        return (double) totalOf(from, to) / (double) (to - from + 1);
    }

    public float greatestShare(int from, int to)
            throws IndexOutOfBoundsException, IllegalArgumentException {
        checkRange(from, to);
        int count = countOf(from, to, tree.greatestOf(from, to));
        return (float) count / (float) (to - from + 1);
    }

    // ---- searches

    public int firstAtLeast(int from, int bound) throws IndexOutOfBoundsException {
        checkIndex(from);
        for (int index = from; index < tree.size(); index++) {
            if (tree.valueAt(index) >= bound) {
                return index;
            }
        }
        return NONE;
    }

    public int firstBelow(int from, int bound) throws IndexOutOfBoundsException {
        checkIndex(from);
        for (int index = from; index < tree.size(); index++) {
            if (tree.valueAt(index) < bound) {
                return index;
            }
        }
        return NONE;
    }

    public int lastAtLeast(int to, int bound) throws IndexOutOfBoundsException {
        checkIndex(to);
        for (int index = to; index >= 0; index--) {
            if (tree.valueAt(index) >= bound) {
                return index;
            }
        }
        return NONE;
    }

    public int longestRun(int value) {
        int longest = 0;
        int length = 0;
        for (int index = 0; index < tree.size(); index++) {
            length = tree.valueAt(index) == value ? length + 1 : 0;
            longest = Math.max(longest, length);
        }
        return longest;
    }

    public int occurrence(int value, int number) {
        int passed = 0;
        for (int index = 0; index < tree.size(); index++) {
            if (tree.valueAt(index) == value) {
                if (passed == number) {
                    return index;
                }
                passed++;
            }
        }
        return NONE;
    }

    public int prefixAtLeast(long total) {
        long sumSoFar = 0;
        for (int index = 0; index < tree.size(); index++) {
            sumSoFar += tree.valueAt(index);
            if (sumSoFar >= total) {
                return index;
            }
        }
        return NONE;
    }

    public int distinctCount(int from, int to)
            throws IndexOutOfBoundsException, IllegalArgumentException {
        checkRange(from, to);
        int distinct = 0;
        for (int index = from; index <= to; index++) {
            if (firstWith(from, to, tree.valueAt(index)) == index) {
                distinct++;
            }
        }
        return distinct;
    }

    // ---- nodes and marks

    public int nodeCount() {
        return 2 * tree.size() - 1;
    }

    public int depth() {
        int deepest = 0;
        for (int index = 0; index < tree.size(); index++) {
            deepest = Math.max(deepest, Tree.levelOf(tree.leafAt(index)));
        }
        return deepest;
    }

    public int leafOf(int index) throws IndexOutOfBoundsException {
        checkIndex(index);
        return tree.leafAt(index);
    }

    public boolean isLeaf(int node) throws IndexOutOfBoundsException {
        checkNode(node);
        return !tree.isInner(node);
    }

    public int firstIndex(int node) throws IndexOutOfBoundsException {
        checkNode(node);
        return tree.firstUnder(node);
    }

    public int lastIndex(int node) throws IndexOutOfBoundsException {
        checkNode(node);
        return tree.lastUnder(node);
    }

    public long storedSum(int node) throws IndexOutOfBoundsException {
        checkNode(node);
        return tree.sumAt(node);
    }

    public int storedLeast(int node) throws IndexOutOfBoundsException {
        checkNode(node);
        return tree.lowAt(node);
    }

    public int storedGreatest(int node) throws IndexOutOfBoundsException {
        checkNode(node);
        return tree.highAt(node);
    }

    public int markFactor(int node) throws IndexOutOfBoundsException {
        checkNode(node);
        return tree.factorAt(node);
    }

    public int markOffset(int node) throws IndexOutOfBoundsException {
        checkNode(node);
        return tree.offsetAt(node);
    }

    public int markedNodes() {
        int marked = 0;
        for (int node = 1; node < Tree.NODES; node++) {
            if (tree.isMarked(node)) {
                marked++;
            }
        }
        return marked;
    }

    public int marksAbove(int index) throws IndexOutOfBoundsException {
        checkIndex(index);
        int marked = 0;
        for (int node = tree.leafAt(index) / 2; node >= 1; node /= 2) {
            if (tree.isMarked(node)) {
                marked++;
            }
        }
        return marked;
    }

    // ---- what an update would do

    public int appliedFor(int from, int to)
            throws IndexOutOfBoundsException, IllegalArgumentException {
        checkRange(from, to);
        int taken = 0;
        for (int node = 1; node < Tree.NODES; node++) {
            if (tree.isTaken(node, from, to)) {
                taken++;
            }
        }
        return taken;
    }

    public int appliedNode(int from, int to, int position)
            throws IndexOutOfBoundsException, IllegalArgumentException {
        checkRange(from, to);
        int passed = 0;
        for (int index = from; index <= to; index++) {
            int node = tree.takenFrom(index, from, to);
            if (node != NONE) {
                if (passed == position) {
                    return node;
                }
                passed++;
            }
        }
        return NONE;
    }

    public int visitedFor(int from, int to)
            throws IndexOutOfBoundsException, IllegalArgumentException {
        checkRange(from, to);
        int visited = 0;
        for (int node = 1; node < Tree.NODES; node++) {
            if (tree.isTaken(node, from, to) || tree.isPassed(node, from, to)) {
                visited++;
            }
        }
        return visited;
    }

    public int pushesFor(int from, int to)
            throws IndexOutOfBoundsException, IllegalArgumentException {
        checkRange(from, to);
        int pushes = 0;
        for (int node = 1; node < Tree.NODES; node++) {
            if (tree.isPassed(node, from, to) && tree.isMarkedFromAbove(node)) {
                pushes++;
            }
        }
        return pushes;
    }

    public boolean canAdd(int from, int to, int amount)
            throws IndexOutOfBoundsException, IllegalArgumentException {
        checkRange(from, to);
        checkValue(amount);
        return tree.canRaise(from, to, amount);
    }

    public int greatestAddition(int from, int to)
            throws IndexOutOfBoundsException, IllegalArgumentException {
        checkRange(from, to);
        return Math.min(VALUE_LIMIT, ELEMENT_LIMIT - tree.greatestOf(from, to));
    }

    public long totalIfAssigned(int from, int to, int value)
            throws IndexOutOfBoundsException, IllegalArgumentException {
        checkRange(from, to);
        checkValue(value);
        long kept = totalOf(0, tree.size() - 1) - totalOf(from, to);
        return kept + (long) value * (to - from + 1);
    }

    // ---- counters and checks

    public int updateCount() {
        return tree.updates();
    }

    public int pushCount() {
        return tree.pushes();
    }

    public int appliedCount() {
        return tree.applications();
    }

    public int violations() {
        int found = 0;
        for (int node = 1; node < Tree.NODES; node++) {
            if (tree.isBroken(node)) {
                found++;
            }
        }
        for (int index = 0; index < tree.size(); index++) {
            if (!isElement(tree.valueAt(index))) {
                found++;
            }
        }
        return found;
    }

    // ---- the report

    public int writeRange(int from, int to)
            throws IndexOutOfBoundsException, IllegalArgumentException {
        checkRange(from, to);
        report.clear();
        for (int index = from; index <= to; index++) {
            if (index > from) {
                report.put(',');
            }
            report.putNumber(tree.valueAt(index));
        }
        return report.length();
    }

    public int reportByte(int index) {
        return report.byteAt(index);
    }

    // ---- what the calls above share

    private void checkIndex(int index) throws IndexOutOfBoundsException {
        if (index < 0 || index >= tree.size()) {
            throw new IndexOutOfBoundsException("there is no such index");
        }
    }

    private void checkRange(int from, int to)
            throws IndexOutOfBoundsException, IllegalArgumentException {
        checkIndex(from);
        checkIndex(to);
        if (to < from) {
            throw new IllegalArgumentException("the range ends before it begins");
        }
    }

    private void checkValue(int value) throws IllegalArgumentException {
        if (value < -VALUE_LIMIT || value > VALUE_LIMIT) {
            throw new IllegalArgumentException("the value is out of range");
        }
    }

    private void checkNode(int node) throws IndexOutOfBoundsException {
        if (!tree.has(node)) {
            throw new IndexOutOfBoundsException("there is no such node");
        }
    }

    private static boolean isElement(int value) {
        return value >= -ELEMENT_LIMIT && value <= ELEMENT_LIMIT;
    }

    private long totalOf(int from, int to) {
        long total = 0;
        for (int index = from; index <= to; index++) {
            total += tree.valueAt(index);
        }
        return total;
    }

    private int firstWith(int from, int to, int value) {
        for (int index = from; index <= to; index++) {
            if (tree.valueAt(index) == value) {
                return index;
            }
        }
        return NONE;
    }

    private int countOf(int from, int to, int value) {
        int count = 0;
        for (int index = from; index <= to; index++) {
            if (tree.valueAt(index) == value) {
                count++;
            }
        }
        return count;
    }

    private int stepTo(int index) {
        return tree.valueAt(index) - tree.valueAt(index - 1);
    }

    /** Everything that undo restores: the nodes with their marks, and the counters. */
    private static final class Tree {
        // Halving 40 indexes ends on the seventh level, whose numbers end at 127.
        static final int NODES = 128;
        // The children of a node below this number have numbers below NODES.
        private static final int PARENTS = NODES / 2;

        // The factors of the marks of the updates.
        static final int BY_ASSIGNING = 0;
        static final int BY_ADDING = 1;
        static final int BY_NEGATING = -1;

        private int size = 0;
        private int updates = 0;
        private int pushes = 0;
        private int applications = 0;
        // Numbers without a node stand for the indexes from NONE to NONE.
        private final int[] firsts = new int[NODES];
        private final int[] lasts = new int[NODES];
        private final long[] sums = new long[NODES];
        private final int[] lows = new int[NODES];
        private final int[] highs = new int[NODES];
        private final int[] factors = new int[NODES];
        private final int[] offsets = new int[NODES];
        // The elements with all marks applied, read again behind every update,
        // so that questions about ranges need not climb the tree.
        private final int[] values = new int[MOST_ELEMENTS];

        int size() {
            return size;
        }

        int updates() {
            return updates;
        }

        int pushes() {
            return pushes;
        }

        int applications() {
            return applications;
        }

        void copyFrom(Tree other) {
            if (other == null) {
                return;
            }
            size = other.size;
            updates = other.updates;
            pushes = other.pushes;
            applications = other.applications;
            System.arraycopy(other.firsts, 0, firsts, 0, NODES);
            System.arraycopy(other.lasts, 0, lasts, 0, NODES);
            System.arraycopy(other.sums, 0, sums, 0, NODES);
            System.arraycopy(other.lows, 0, lows, 0, NODES);
            System.arraycopy(other.highs, 0, highs, 0, NODES);
            System.arraycopy(other.factors, 0, factors, 0, NODES);
            System.arraycopy(other.offsets, 0, offsets, 0, NODES);
            System.arraycopy(other.values, 0, values, 0, MOST_ELEMENTS);
        }

        // ---- building

        void clearCounters() {
            updates = 0;
            pushes = 0;
            applications = 0;
        }

        void build(int[] given, int count) {
            if (given == null || count < 1 || count > given.length || count > MOST_ELEMENTS) {
                return;
            }
            size = count;
            System.arraycopy(given, 0, values, 0, count);
            layOut();
            Arrays.fill(factors, 1);
            Arrays.fill(offsets, 0);
            for (int node = NODES - 1; node >= 1; node--) {
                if (isInner(node)) {
                    gather(node);
                } else {
                    plant(node);
                }
            }
        }

        private void layOut() {
            Arrays.fill(firsts, NONE);
            Arrays.fill(lasts, NONE);
            firsts[1] = 0;
            lasts[1] = size - 1;
            for (int node = 1; node < PARENTS; node++) {
                if (firsts[node] < lasts[node]) {
                    int middle = (firsts[node] + lasts[node]) / 2;
                    firsts[2 * node] = firsts[node];
                    lasts[2 * node] = middle;
                    firsts[2 * node + 1] = middle + 1;
                    lasts[2 * node + 1] = lasts[node];
                }
            }
        }

        /** Puts its element into a leaf. */
        private void plant(int node) {
            if (node < 1 || node >= NODES) {
                return;
            }
            int index = firsts[node];
            if (index >= 0 && index < MOST_ELEMENTS) {
                sums[node] = values[index];
                lows[node] = values[index];
                highs[node] = values[index];
            }
        }

        private void gather(int node) {
            if (node >= 1 && node < PARENTS) {
                int left = 2 * node;
                int right = 2 * node + 1;
                sums[node] = sums[left] + sums[right];
                lows[node] = Math.min(lows[left], lows[right]);
                highs[node] = Math.max(highs[left], highs[right]);
            }
        }

        void extend(int value) {
            if (size >= 0 && size < MOST_ELEMENTS) {
                values[size] = value;
                build(values, size + 1);
            }
        }

        void shorten() {
            build(values, size - 1);
        }

        // ---- nodes

        boolean has(int node) {
            return node >= 1 && node < NODES && firsts[node] != NONE;
        }

        boolean isInner(int node) {
            return node >= 1 && node < PARENTS && firsts[node] < lasts[node];
        }

        int firstUnder(int node) {
            return node >= 1 && node < NODES ? firsts[node] : NONE;
        }

        int lastUnder(int node) {
            return node >= 1 && node < NODES ? lasts[node] : NONE;
        }

        long sumAt(int node) {
            return node >= 1 && node < NODES ? sums[node] : 0L;
        }

        int lowAt(int node) {
            return node >= 1 && node < NODES ? lows[node] : 0;
        }

        int highAt(int node) {
            return node >= 1 && node < NODES ? highs[node] : 0;
        }

        int factorAt(int node) {
            return node >= 1 && node < NODES ? factors[node] : 1;
        }

        int offsetAt(int node) {
            return node >= 1 && node < NODES ? offsets[node] : 0;
        }

        boolean isMarked(int node) {
            return node >= 1 && node < NODES && (factors[node] != 1 || offsets[node] != 0);
        }

        int leafAt(int index) {
            int node = 1;
            for (int step = 0; step < NODES && isInner(node); step++) {
                node = index <= lastUnder(2 * node) ? 2 * node : 2 * node + 1;
            }
            return node;
        }

        static int levelOf(int node) {
            int level = 0;
            for (int above = node; above >= 1; above /= 2) {
                level++;
            }
            return level;
        }

        // ---- elements

        int valueAt(int index) {
            return index >= 0 && index < MOST_ELEMENTS ? values[index] : 0;
        }

        int leastOf(int from, int to) {
            int least = valueAt(from);
            for (int index = from + 1; index <= to; index++) {
                least = Math.min(least, valueAt(index));
            }
            return least;
        }

        int greatestOf(int from, int to) {
            int greatest = valueAt(from);
            for (int index = from + 1; index <= to; index++) {
                greatest = Math.max(greatest, valueAt(index));
            }
            return greatest;
        }

        private void readValues() {
            for (int node = 1; node < NODES; node++) {
                int index = firsts[node];
                if (index >= 0 && index < MOST_ELEMENTS && index == lasts[node]) {
                    values[index] = underMarksAbove(node, lows[node]);
                }
            }
        }

        private int underMarksAbove(int leaf, int stored) {
            int value = stored;
            for (int above = leaf / 2; above >= 1 && above < NODES; above /= 2) {
                value = factors[above] * value + offsets[above];
            }
            return value;
        }

        // ---- marks

        private void mark(int node, int factor, int offset) {
            if (node < 1 || node >= NODES) {
                return;
            }
            int width = lasts[node] - firsts[node] + 1;
            // A negative factor turns the order round.
            int low = factor < 0 ? highs[node] : lows[node];
            int high = factor < 0 ? lows[node] : highs[node];
            sums[node] = factor * sums[node] + (long) offset * width;
            lows[node] = factor * low + offset;
            highs[node] = factor * high + offset;
            if (width > 1) {
                factors[node] = factor * factors[node];
                offsets[node] = factor * offsets[node] + offset;
            }
        }

        boolean push(int node) {
            if (!isInner(node) || !isMarked(node)) {
                return false;
            }
            mark(2 * node, factors[node], offsets[node]);
            mark(2 * node + 1, factors[node], offsets[node]);
            factors[node] = 1;
            offsets[node] = 0;
            pushes++;
            return true;
        }

        int pushEach() {
            int count = 0;
            for (int node = 1; node < NODES; node++) {
                if (push(node)) {
                    count++;
                }
            }
            return count;
        }

        /** Whether the node would have a mark if all marks above had been pushed down to it. */
        boolean isMarkedFromAbove(int node) {
            int factor = 1;
            int offset = 0;
            for (int above = node; above >= 1 && above < NODES; above /= 2) {
                factor = factors[above] * factor;
                offset = factors[above] * offset + offsets[above];
            }
            return factor != 1 || offset != 0;
        }

        /** Whether the summary is not what those of the children and the mark give. */
        boolean isBroken(int node) {
            if (!isInner(node)) {
                return isMarked(node);
            }
            int factor = factors[node];
            int offset = offsets[node];
            int width = lasts[node] - firsts[node] + 1;
            int low = Math.min(lows[2 * node], lows[2 * node + 1]);
            int high = Math.max(highs[2 * node], highs[2 * node + 1]);
            long total = sums[2 * node] + sums[2 * node + 1];
            return sums[node] != factor * total + (long) offset * width
                    || lows[node] != factor * (factor < 0 ? high : low) + offset
                    || highs[node] != factor * (factor < 0 ? low : high) + offset;
        }

        // ---- updates

        boolean canRaise(int from, int to, int amount) {
            return isElement(leastOf(from, to) + amount)
                    && isElement(greatestOf(from, to) + amount);
        }

        /**
         * Takes the nodes by their numbers instead of walking from parent to child, which
         * gives the same: a parent's number is the smaller one, so that going up the numbers
         * pushes from above, and coming back down them gathers from below.
         */
        int update(int from, int to, int factor, int offset) {
            for (int node = 1; node < NODES; node++) {
                if (isPassed(node, from, to)) {
                    push(node);
                }
            }
            int count = 0;
            for (int node = NODES - 1; node >= 1; node--) {
                if (isTaken(node, from, to)) {
                    mark(node, factor, offset);
                    count++;
                } else if (isPassed(node, from, to)) {
                    gather(node);
                }
            }
            updates++;
            applications += count;
            readValues();
            return count;
        }

        private boolean isInside(int node, int from, int to) {
            return node >= 1 && node < NODES && firsts[node] >= from && lasts[node] <= to;
        }

        /** Whether an update of the range arrives at the node and goes on below it. */
        boolean isPassed(int node, int from, int to) {
            return node >= 1 && node < NODES && firsts[node] <= to && lasts[node] >= from
                    && (firsts[node] < from || lasts[node] > to);
        }

        /** Whether an update of the range arrives at the node and applies its mark there. */
        boolean isTaken(int node, int from, int to) {
            return isInside(node, from, to) && !isInside(node / 2, from, to);
        }

        /** The node that is taken by an update of the range and begins at the index, or NONE. */
        int takenFrom(int index, int from, int to) {
            for (int node = leafAt(index); node >= 1; node /= 2) {
                if (isTaken(node, from, to)) {
                    return firstUnder(node) == index ? node : NONE;
                }
            }
            return NONE;
        }
    }

    /** The trees as they were before the latest changes, the oldest one first. */
    private static final class History {
        private final Tree[] kept = new Tree[MOST_UNDOS];
        private int count = 0;

        History() {
            for (int place = 0; place < MOST_UNDOS; place++) {
                kept[place] = new Tree();
            }
        }

        int count() {
            return count;
        }

        void forget() {
            count = 0;
        }

        void remember(Tree tree) {
            if (count >= MOST_UNDOS) {
                dropOldest();
            }
            Tree free = treeAt(count);
            if (free != null) {
                free.copyFrom(tree);
                count++;
            }
        }

        boolean takeBack(Tree tree) {
            Tree latest = treeAt(count - 1);
            if (latest == null || tree == null) {
                return false;
            }
            tree.copyFrom(latest);
            count--;
            return true;
        }

        private Tree treeAt(int place) {
            return place >= 0 && place < MOST_UNDOS ? kept[place] : null;
        }

        // The oldest tree is used again for the next change, so that no call makes one.
        private void dropOldest() {
            Tree oldest = kept[0];
            for (int place = 1; place < MOST_UNDOS; place++) {
                kept[place - 1] = kept[place];
            }
            kept[MOST_UNDOS - 1] = oldest;
            count = MOST_UNDOS - 1;
        }
    }

    /** The input buffer. */
    private static final class Text {
        private final byte[] bytes = new byte[MOST_BYTES];
        private int length = 0;

        int length() {
            return length;
        }

        void shorten(int newLength) {
            if (newLength >= 0 && newLength <= length) {
                length = newLength;
            }
        }

        void putInt(int four) {
            for (int shift = 24; shift >= 0; shift -= 8) {
                if (length >= 0 && length < MOST_BYTES) {
                    bytes[length] = (byte) (four >> shift);
                    length++;
                }
            }
        }

        /** The byte as 0 to 255, or NONE behind the end of the text. */
        int byteAt(int place) {
            return place >= 0 && place < length && place < MOST_BYTES ? bytes[place] & 255 : NONE;
        }
    }

    /** A script split into tokens: each has a code, the offset of its first byte and a number. */
    private static final class Tokens {
        static final int END = 0;
        static final int WRONG = 1;
        static final int NUMBER = 2;
        static final int HYPHEN = 3;
        static final int OPEN = 4;
        static final int CLOSE = 5;
        static final int SEMICOLON = 6;
        static final int SEQUENCE = 7;
        static final int REPEAT = 8;
        // The commands that a script counts are those from here on.
        static final int ASSIGN = 9;
        static final int ADD = 10;
        static final int NEGATE = 11;
        static final int PUSH = 12;
        static final int SETTLE = 13;
        static final int APPEND = 14;
        static final int REMOVE = 15;

        private static final int MOST_DIGITS = 4;
        // Every byte may be a token of its own, and the end is one more.
        private static final int MOST_TOKENS = MOST_BYTES + 1;

        private final int[] codes = new int[MOST_TOKENS];
        private final int[] offsets = new int[MOST_TOKENS];
        private final int[] numbers = new int[MOST_TOKENS];
        private int count = 0;

        int codeAt(int place) {
            return place >= 0 && place < count && place < MOST_TOKENS ? codes[place] : END;
        }

        int offsetAt(int place) {
            return place >= 0 && place < count && place < MOST_TOKENS ? offsets[place] : NONE;
        }

        int numberAt(int place) {
            return place >= 0 && place < count && place < MOST_TOKENS ? numbers[place] : 0;
        }

        void split(Text text) {
            count = 0;
            if (text == null) {
                return;
            }
            int end = 0;
            for (int place = 0; place < text.length(); place++) {
                // A token that is longer than one byte has been taken whole at its first byte.
                if (place >= end && !isBlank(text.byteAt(place))) {
                    end = endOfToken(text, place);
                    take(text, place, end);
                }
            }
            put(END, text.length(), 0);
        }

        private void put(int code, int offset, int number) {
            if (count >= 0 && count < MOST_TOKENS) {
                codes[count] = code;
                offsets[count] = offset;
                numbers[count] = number;
                count++;
            }
        }

        private static boolean isBlank(int sign) {
            return sign == ' ' || sign == '\n';
        }

        private static boolean isLetter(int sign) {
            return sign >= 'a' && sign <= 'z';
        }

        private static boolean isDigit(int sign) {
            return sign >= '0' && sign <= '9';
        }

        private static int endOfToken(Text text, int start) {
            int sign = text.byteAt(start);
            boolean word = isLetter(sign);
            if (!word && !isDigit(sign)) {
                return start + 1;
            }
            for (int place = start + 1; place < text.length(); place++) {
                int next = text.byteAt(place);
                if (word ? !isLetter(next) : !isDigit(next)) {
                    return place;
                }
            }
            return text.length();
        }

        private void take(Text text, int start, int end) {
            int sign = text.byteAt(start);
            if (isLetter(sign)) {
                put(codeOfWord(text, start, end), start, 0);
            } else if (!isDigit(sign)) {
                put(codeOfSign(sign), start, 0);
            } else if (end - start > MOST_DIGITS) {
                put(WRONG, start, 0);
            } else {
                put(NUMBER, start, numberOf(text, start, end));
            }
        }

        private static int numberOf(Text text, int start, int end) {
            int number = 0;
            for (int place = start; place < end; place++) {
                number = 10 * number + text.byteAt(place) - '0';
            }
            return number;
        }

        private static int codeOfSign(int sign) {
            switch (sign) {
                case '-': return HYPHEN;
                case '(': return OPEN;
                case ')': return CLOSE;
                case ';': return SEMICOLON;
                default: return WRONG;
            }
        }

        private static int codeOfWord(Text text, int start, int end) {
            if (spells(text, start, end, "sequence")) {
                return SEQUENCE;
            }
            if (spells(text, start, end, "repeat")) {
                return REPEAT;
            }
            if (spells(text, start, end, "assign")) {
                return ASSIGN;
            }
            if (spells(text, start, end, "add")) {
                return ADD;
            }
            if (spells(text, start, end, "negate")) {
                return NEGATE;
            }
            if (spells(text, start, end, "push")) {
                return PUSH;
            }
            if (spells(text, start, end, "settle")) {
                return SETTLE;
            }
            if (spells(text, start, end, "append")) {
                return APPEND;
            }
            return spells(text, start, end, "remove") ? REMOVE : WRONG;
        }

        private static boolean spells(Text text, int start, int end, String word) {
            if (end - start != word.length()) {
                return false;
            }
            for (int place = 0; place < word.length(); place++) {
                if (text.byteAt(start + place) != word.charAt(place)) {
                    return false;
                }
            }
            return true;
        }
    }

    /** Executes scripts on a tree of its own, and keeps the error of the latest one. */
    private static final class Script {
        private static final int NOT_ALLOWED = 1;
        private static final int OUT_OF_RANGE = 2;
        private static final int TOO_MANY_VALUES = 3;
        private static final int REFUSED = 4;
        private static final int TOO_DEEP = 5;
        private static final int TOO_MANY_COMMANDS = 6;

        private static final int MOST_REPEATS = 3;
        private static final int MOST_ROUNDS = 20;
        private static final int MOST_COMMANDS = 200;
        private static final int MOST_STEPS = 1000000;

        private final Tree tree = new Tree();
        private final Tokens tokens = new Tokens();
        private final int[] values = new int[MOST_ELEMENTS];
        private int place = 0;
        private int executed = 0;
        private int errorKind = 0;
        private int errorPlace = 0;
        // The repeats that stand open, the outermost one first.
        private int open = 0;
        private final int[] roundsLeft = new int[MOST_REPEATS];
        private final int[] bodies = new int[MOST_REPEATS];
        private final int[] executedBefore = new int[MOST_REPEATS];

        int errorKind() {
            return errorKind;
        }

        int errorOffset() {
            return errorKind == 0 ? NONE : tokens.offsetAt(errorPlace);
        }

        Tree result() {
            return tree;
        }

        void run(Text text) {
            errorKind = 0;
            place = 0;
            executed = 0;
            open = 0;
            tokens.split(text);
            readSequence();
            for (int step = 0; step < MOST_STEPS && goesOn(); step++) {
                int code = tokens.codeAt(place);
                if (code >= Tokens.ASSIGN) {
                    readCommand(code);
                } else if (code == Tokens.REPEAT) {
                    openRepeat();
                } else if (code == Tokens.CLOSE && open > 0) {
                    closeRepeat();
                } else {
                    fail(NOT_ALLOWED);
                }
            }
        }

        private boolean goesOn() {
            return errorKind == 0 && (open > 0 || !isAt(Tokens.END));
        }

        private boolean isAt(int code) {
            return tokens.codeAt(place) == code;
        }

        private void fail(int kind) {
            if (errorKind == 0) {
                errorKind = kind;
                errorPlace = place;
            }
        }

        // Behind the first error nothing is read any more, so that it stays the one reported.
        private void expect(int code) {
            if (errorKind != 0) {
                return;
            }
            if (tokens.codeAt(place) == code) {
                place++;
            } else {
                fail(NOT_ALLOWED);
            }
        }

        // ---- the sequence

        private void readSequence() {
            expect(Tokens.SEQUENCE);
            int count = 0;
            for (int step = 0; step <= MOST_ELEMENTS && errorKind == 0; step++) {
                if (count > 0 && isAt(Tokens.SEMICOLON)) {
                    break;
                }
                int value = readValue(count < MOST_ELEMENTS);
                if (count < MOST_ELEMENTS) {
                    values[count] = value;
                    count++;
                }
            }
            expect(Tokens.SEMICOLON);
            if (errorKind == 0) {
                tree.clearCounters();
                tree.build(values, count);
            }
        }

        private int readValue(boolean fits) {
            boolean negative = errorKind == 0 && isAt(Tokens.HYPHEN);
            if (negative) {
                place++;
            }
            int number = tokens.numberAt(place);
            if (!fits && isAt(Tokens.NUMBER)) {
                fail(TOO_MANY_VALUES);
            }
            expect(Tokens.NUMBER);
            return negative ? -number : number;
        }

        // ---- statements

        private void openRepeat() {
            if (open < 0 || open >= MOST_REPEATS) {
                fail(TOO_DEEP);
                return;
            }
            place++;
            int rounds = readNumber(1, MOST_ROUNDS);
            expect(Tokens.OPEN);
            roundsLeft[open] = rounds;
            bodies[open] = place;
            executedBefore[open] = executed;
            open++;
        }

        private void closeRepeat() {
            int inner = open - 1;
            if (inner < 0 || inner >= MOST_REPEATS) {
                return;
            }
            roundsLeft[inner]--;
            // A round without a command has changed nothing: the next one would be the same.
            if (roundsLeft[inner] > 0 && executed > executedBefore[inner]) {
                executedBefore[inner] = executed;
                place = bodies[inner];
            } else {
                open = inner;
                place++;
                expect(Tokens.SEMICOLON);
            }
        }

        private void readCommand(int code) {
            if (executed >= MOST_COMMANDS) {
                fail(TOO_MANY_COMMANDS);
                return;
            }
            place++;
            switch (code) {
                case Tokens.ASSIGN:
                case Tokens.ADD:
                case Tokens.NEGATE:
                    readUpdate(code);
                    break;
                case Tokens.PUSH:
                    readPush();
                    break;
                case Tokens.SETTLE:
                    if (ends(true)) {
                        tree.pushEach();
                    }
                    break;
                case Tokens.APPEND:
                    readAppend();
                    break;
                default:
                    if (ends(tree.size() > 1)) {
                        tree.shorten();
                    }
                    break;
            }
            executed++;
        }

        private void readUpdate(int code) {
            int from = readNumber(0, tree.size() - 1);
            int to = readNumber(from, tree.size() - 1);
            int value = code == Tokens.NEGATE ? 0 : readValue(true);
            if (errorKind != 0 || !ends(code != Tokens.ADD || tree.canRaise(from, to, value))) {
                return;
            }
            if (code == Tokens.ASSIGN) {
                tree.update(from, to, Tree.BY_ASSIGNING, value);
            } else if (code == Tokens.ADD) {
                tree.update(from, to, Tree.BY_ADDING, value);
            } else {
                tree.update(from, to, Tree.BY_NEGATING, 0);
            }
        }

        private void readPush() {
            int node = tokens.numberAt(place);
            if (isAt(Tokens.NUMBER) && !tree.has(node)) {
                fail(OUT_OF_RANGE);
            }
            expect(Tokens.NUMBER);
            if (ends(tree.isInner(node))) {
                tree.push(node);
            }
        }

        private void readAppend() {
            int value = readValue(true);
            if (ends(tree.size() < MOST_ELEMENTS)) {
                tree.extend(value);
            }
        }

        private int readNumber(int smallest, int largest) {
            int number = tokens.numberAt(place);
            if (isAt(Tokens.NUMBER) && (number < smallest || number > largest)) {
                fail(OUT_OF_RANGE);
            }
            expect(Tokens.NUMBER);
            return number;
        }

        /** Reads the semicolon behind a command, and tells whether the command is to be executed. */
        private boolean ends(boolean allowed) {
            if (isAt(Tokens.SEMICOLON) && !allowed) {
                fail(REFUSED);
            }
            expect(Tokens.SEMICOLON);
            return errorKind == 0;
        }
    }

    /** The report. */
    private static final class Report {
        // Forty times "-1000000," is as long as a report can be.
        private static final int MOST_REPORT_BYTES = 360;
        private static final int HIGHEST_POWER = 1000000;

        private final byte[] bytes = new byte[MOST_REPORT_BYTES];
        private int length = 0;

        int length() {
            return length;
        }

        void clear() {
            length = 0;
        }

        void put(int sign) {
            if (length >= 0 && length < MOST_REPORT_BYTES) {
                bytes[length] = (byte) sign;
                length++;
            }
        }

        void putNumber(int number) {
            if (number < 0) {
                put('-');
            }
            int rest = Math.abs(number);
            for (int power = HIGHEST_POWER; power >= 1; power /= 10) {
                if (rest >= power || power == 1) {
                    put('0' + rest / power % 10);
                }
            }
        }

        int byteAt(int place) {
            return place >= 0 && place < length && place < MOST_REPORT_BYTES ? bytes[place] : NONE;
        }
    }
}
