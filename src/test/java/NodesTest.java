/** Promises 40 to 52. */
public final class NodesTest {
    private static final String VALUES_40 =
            "1 2 3 4 5 6 7 8 9 10 11 12 13 14 15 16 17 18 19 20 21 22 23 24 25 26 27 28 29 30 "
            + "31 32 33 34 35 36 37 38 39 40";

    public static void main(String[] args) {
        promises40And41();
        promise42();
        promises43To45();
        greatestTree();
        promises46To48();
        promises49And50();
        promise51();
        promise52();
        noSuchNodes();
        Due.close();
    }

    private static void promises40And41() {
        int[] depths = {1, 2, 3, 3, 4, 4, 4, 4, 5, 5, 5, 5, 5, 5, 5, 5, 6, 6, 6, 6, 6, 6, 6, 6, 6, 6, 6, 6,
            6, 6, 6, 6, 7, 7, 7, 7, 7, 7, 7, 7};
        LazyRangeTree x = Due.made("sequence 1;");
        for (int n = 1; n <= 40; n++) {
            Due.due("nodeCount()", x.nodeCount(), 2 * n - 1);
            Due.due("depth() of " + n, x.depth(), depths[n - 1]);
            if (n < 40) {
                x.appendElement(n);
            }
        }
    }

    private static void promise42() {
        LazyRangeTree x = new LazyRangeTree();
        int[] leaves = {16, 17, 9, 10, 11, 24, 25, 13, 14, 15};
        for (int index = 0; index < 10; index++) {
            Due.due("leafOf(" + index + ")", x.leafOf(index), leaves[index]);
        }
        for (int none : new int[] {-1, 10, Integer.MIN_VALUE, Integer.MAX_VALUE}) {
            Due.dueIndex("leafOf of no index", () -> x.leafOf(none));
        }
        Due.due("leafOf(0)", Due.made("sequence 1;").leafOf(0), 1);
    }

    private static void promises43To45() {
        LazyRangeTree x = Due.made("sequence 1 2 3 4 5;");
        int[][] nodes = {{1, 0, 4}, {2, 0, 2}, {3, 3, 4}, {4, 0, 1}, {5, 2, 2}, {6, 3, 3}, {7, 4, 4}, {8, 0, 0}, {9, 1, 1}};
        for (int[] node : nodes) {
            Due.due("isLeaf(" + node[0] + ")", x.isLeaf(node[0]), node[1] == node[2]);
            Due.due("firstIndex(" + node[0] + ")", x.firstIndex(node[0]), node[1]);
            Due.due("lastIndex(" + node[0] + ")", x.lastIndex(node[0]), node[2]);
        }
        LazyRangeTree one = Due.made("sequence 1;");
        Due.due("isLeaf(1)", one.isLeaf(1), true);
        Due.due("firstIndex(1)", one.firstIndex(1), 0);
        Due.due("lastIndex(1)", one.lastIndex(1), 0);
    }

    private static void greatestTree() {
        LazyRangeTree x = Due.made("sequence " + VALUES_40 + ";");
        Due.due("leafOf(0)", x.leafOf(0), 64);
        Due.due("leafOf(1)", x.leafOf(1), 65);
        Due.due("leafOf(39)", x.leafOf(39), 63);
        Due.due("leafOf(36)", x.leafOf(36), 121);
        Due.due("storedSum(121)", x.storedSum(121), 37L);
        Due.due("isLeaf(121)", x.isLeaf(121), true);
        Due.dueIndex("isLeaf(127)", () -> x.isLeaf(127));
        int nodes = 0;
        for (int node = -5; node < 300; node++) {
            int number = node;
            if (Due.outcome(() -> x.isLeaf(number)) instanceof Boolean) {
                nodes++;
            }
        }
        Due.due("nodes", nodes, 79);
    }

    private static void promises46To48() {
        LazyRangeTree x = Due.made("sequence 1 -2 3 4;negate 0 3;");
        Due.due("storedSum(1)", x.storedSum(1), -6L);
        Due.due("storedLeast(1)", x.storedLeast(1), -4);
        Due.due("storedGreatest(1)", x.storedGreatest(1), 2);
        Due.due("storedSum(2)", x.storedSum(2), -1L);
        Due.due("storedLeast(2)", x.storedLeast(2), -2);
        Due.due("storedGreatest(2)", x.storedGreatest(2), 1);
        Due.due("storedSum(7)", x.storedSum(7), 4L);
        Due.due("storedLeast(7)", x.storedLeast(7), 4);
        Due.due("storedGreatest(7)", x.storedGreatest(7), 4);
        x.add(0, 1, 5);
        Due.due("storedSum(1)", x.storedSum(1), 4L);
        Due.due("storedLeast(1)", x.storedLeast(1), -4);
        Due.due("storedGreatest(1)", x.storedGreatest(1), 7);
        Due.due("storedSum(2)", x.storedSum(2), 11L);
        Due.due("storedSum(3)", x.storedSum(3), -7L);
        Due.due("storedSum(4)", x.storedSum(4), 1L);
        Due.due("storedSum(6)", x.storedSum(6), 3L);
        x.assign(0, 3, -6);
        Due.due("storedSum(1)", x.storedSum(1), -24L);
        Due.due("storedLeast(1)", x.storedLeast(1), -6);
        Due.due("storedGreatest(1)", x.storedGreatest(1), -6);
        Due.due("storedGreatest(2)", x.storedGreatest(2), 7);
    }

    private static void promises49And50() {
        LazyRangeTree x = Due.made("sequence 1 2 3 4;add 0 1 7;negate 0 3;add 0 3 2;");
        Due.due("markFactor(1)", x.markFactor(1), -1);
        Due.due("markOffset(1)", x.markOffset(1), 2);
        Due.due("markFactor(2)", x.markFactor(2), 1);
        Due.due("markOffset(2)", x.markOffset(2), 7);
        Due.due("markFactor(3)", x.markFactor(3), 1);
        Due.due("markOffset(3)", x.markOffset(3), 0);
        x.assign(0, 1, 6);
        Due.due("markFactor(1)", x.markFactor(1), 1);
        Due.due("markOffset(1)", x.markOffset(1), 0);
        Due.due("markFactor(2)", x.markFactor(2), 0);
        Due.due("markOffset(2)", x.markOffset(2), 6);
        x.assign(2, 2, 6);
        Due.due("markFactor(6)", x.markFactor(6), 1);
        Due.due("markOffset(6)", x.markOffset(6), 0);
        LazyRangeTree one = Due.made("sequence 1;assign 0 0 5;");
        Due.due("markFactor(1)", one.markFactor(1), 1);
        Due.due("markOffset(1)", one.markOffset(1), 0);
    }

    private static void promise51() {
        LazyRangeTree x = Due.made("sequence 1 2 3 4;");
        Due.due("markedNodes()", x.markedNodes(), 0);
        x.add(0, 2, 0);
        Due.due("markedNodes()", x.markedNodes(), 0);
        x.add(0, 2, 1);
        Due.due("markedNodes()", x.markedNodes(), 1);
        x.negate(0, 3);
        Due.due("markedNodes()", x.markedNodes(), 2);
        x.negate(0, 3);
        Due.due("markedNodes()", x.markedNodes(), 1);
        x.assign(2, 3, 0);
        Due.due("markedNodes()", x.markedNodes(), 2);
        x.pushAll();
        Due.due("markedNodes()", x.markedNodes(), 0);
    }

    private static void promise52() {
        LazyRangeTree x = Due.made("sequence 1 2 3 4 5;add 0 1 3;add 0 2 3;negate 0 4;");
        Due.due("marksAbove(0)", x.marksAbove(0), 3);
        Due.due("marksAbove(1)", x.marksAbove(1), 3);
        Due.due("marksAbove(2)", x.marksAbove(2), 2);
        Due.due("marksAbove(3)", x.marksAbove(3), 1);
        Due.due("marksAbove(4)", x.marksAbove(4), 1);
        for (int none : new int[] {-1, 5, Integer.MIN_VALUE, Integer.MAX_VALUE}) {
            Due.dueIndex("marksAbove of no index", () -> x.marksAbove(none));
        }
        Due.due("marksAbove(0)", Due.made("sequence 1;negate 0 0;").marksAbove(0), 0);
    }

    private static void noSuchNodes() {
        LazyRangeTree x = new LazyRangeTree();
        for (int none : new int[] {0, -1, 18, 19, 20, 23, 26, 31, 32, 63, 64, 127, 128, 129, 1 << 20, Integer.MIN_VALUE,
            Integer.MAX_VALUE}) {
            Due.dueIndex("isLeaf", () -> x.isLeaf(none));
            Due.dueIndex("firstIndex", () -> x.firstIndex(none));
            Due.dueIndex("lastIndex", () -> x.lastIndex(none));
            Due.dueIndex("storedSum", () -> x.storedSum(none));
            Due.dueIndex("storedLeast", () -> x.storedLeast(none));
            Due.dueIndex("storedGreatest", () -> x.storedGreatest(none));
            Due.dueIndex("markFactor", () -> x.markFactor(none));
            Due.dueIndex("markOffset", () -> x.markOffset(none));
        }
        x.removeLast();
        Due.dueIndex("isLeaf(24) of nine", () -> x.isLeaf(24));
    }
}
