/** Promises 40 to 52, sentence by sentence at their boundaries. */
public final class NodeEdgesTest {
    interface OfNode {
        Object answer(LazyRangeTree x, int node);
    }

    private static final String IS_A_NODE = "`node`: the number of a node";
    private static final String NO_NODE = "Throws `IndexOutOfBoundsException` if there is no node with this number";

    public static void main(String[] args) {
        all();
        Due.close();
    }

    static void all() {
        countsAndDepths();
        leaves();
        kinds();
        indexes();
        summaries();
        marks();
        markedNodes();
        marksAbove();
    }

    /** No number but those of the nodes is answered. */
    static void dueNoNodes(String name, OfNode call) {
        for (int n : new int[] {1, 2, 3, 5, 32, 33, 40}) {
            LazyRangeTree x = Edges.ofCount(n);
            int[][] nodes = Edges.nodes(n);
            for (int node = -2; node < nodes.length; node++) {
                if (node < 0 || nodes[node] == null) {
                    int number = node;
                    Due.dueIndex(name + "(" + node + ") of " + n, () -> call.answer(x, number));
                }
            }
            for (int none : new int[] {512, 1 << 20, (1 << 30) + 1, Integer.MIN_VALUE, Integer.MIN_VALUE + 1, Integer.MAX_VALUE}) {
                Due.dueIndex(name + "(" + none + ") of " + n, () -> call.answer(x, none));
            }
        }
        LazyRangeTree x = Edges.ofCount(3);
        x.removeLast();
        Due.dueIndex(name + "(4) behind removeLast()", () -> call.answer(x, 4));
        Due.dueIndex(name + "(5) behind removeLast()", () -> call.answer(x, 5));
        x.undo();
        Due.dueIndex(name + "(6) behind undo()", () -> call.answer(x, 6));
    }

    private interface WantedOfNode {
        Object of(int first, int last);
    }

    /** Each node of trees of several sizes, built from 1, 2, and so on, is answered as is due. */
    private static void eachNode(String name, OfNode call, WantedOfNode wanted) {
        for (int n : new int[] {1, 2, 3, 5, 10, 31, 32, 33, 39, 40}) {
            LazyRangeTree x = Edges.ofCount(n);
            int[][] nodes = Edges.nodes(n);
            for (int node = 1; node < nodes.length; node++) {
                if (nodes[node] != null) {
                    int number = node;
                    Due.due(name + "(" + node + ") of " + n, Due.outcome(() -> call.answer(x, number)),
                            wanted.of(nodes[node][0], nodes[node][1]));
                }
            }
        }
    }

    private static void countsAndDepths() {
        Edges.of(40, "Returns the number of nodes.", () -> {
            LazyRangeTree x = Edges.of(0);
            for (int n = 1; n <= 40; n++) {
                Due.due("nodeCount() of " + n, x.nodeCount(), 2 * n - 1);
                Due.outcome(() -> x.appendElement(0));
            }
            Due.due("nodeCount() behind a refused appendElement()", x.nodeCount(), 79);
            x.removeLast();
            Due.due("nodeCount() behind removeLast()", x.nodeCount(), 77);
        });
        Edges.of(41, "Returns the number of nodes on the longest path from the root to a leaf.", () -> {
            int[] counts = {1, 2, 3, 4, 5, 8, 9, 16, 17, 32, 33, 40};
            int[] depths = {1, 2, 3, 3, 4, 4, 5, 5, 6, 6, 7, 7};
            for (int i = 0; i < counts.length; i++) {
                Due.due("depth() of " + counts[i], Edges.ofCount(counts[i]).depth(), depths[i]);
            }
            LazyRangeTree x = Edges.ofCount(33);
            x.removeLast();
            Due.due("depth() behind removeLast()", x.depth(), 6);
            x.undo();
            Due.due("depth() behind undo()", x.depth(), 7);
        });
    }

    private static void leaves() {
        Edges.of(42, "`index`: an index", () -> {
            for (int n : new int[] {1, 2, 3, 10, 39, 40}) {
                LazyRangeTree x = Edges.ofCount(n);
                int[][] nodes = Edges.nodes(n);
                for (int node = 1; node < nodes.length; node++) {
                    if (nodes[node] != null && nodes[node][0] == nodes[node][1]) {
                        Due.due("leafOf(" + nodes[node][0] + ") of " + n, x.leafOf(nodes[node][0]), node);
                    }
                }
            }
        });
        Edges.of(42, "Returns the number of the node.", () -> {
            Due.due("leafOf(0) of one element, the root", Edges.of(9).leafOf(0), 1);
            Due.due("leafOf(0) of two", Edges.of(9, 9).leafOf(0), 2);
            Due.due("leafOf(1) of two", Edges.of(9, 9).leafOf(1), 3);
            Due.due("leafOf(1) of three, on the last level", Edges.of(9, 9, 9).leafOf(1), 5);
            Due.due("leafOf(2) of three, one level above", Edges.of(9, 9, 9).leafOf(2), 3);
        });
        Edges.of(42, "Throws `IndexOutOfBoundsException` if `index` is not an index", () ->
                RangeEdgesTest.indexes("leafOf", LazyRangeTree::leafOf));
    }

    private static void kinds() {
        Edges.of(43, IS_A_NODE, () -> eachNode("isLeaf", LazyRangeTree::isLeaf, (first, last) -> first == last));
        Edges.of(43, "Returns whether it is.", () -> {
            Due.due("isLeaf(1) of one element", Edges.of(9).isLeaf(1), true);
            Due.due("isLeaf(1) of two", Edges.of(9, 9).isLeaf(1), false);
            Due.due("isLeaf(2) of two", Edges.of(9, 9).isLeaf(2), true);
            Due.due("isLeaf(2) of three", Edges.of(9, 9, 9).isLeaf(2), false);
        });
        Edges.of(43, NO_NODE, () -> dueNoNodes("isLeaf", LazyRangeTree::isLeaf));
    }

    private static void indexes() {
        Edges.of(44, IS_A_NODE, () -> eachNode("firstIndex", LazyRangeTree::firstIndex, (first, last) -> first));
        Edges.of(44, "Returns the index.", () -> {
            Due.due("firstIndex(3) of three", Edges.of(9, 9, 9).firstIndex(3), 2);
            Due.due("firstIndex(3) of four", Edges.of(9, 9, 9, 9).firstIndex(3), 2);
            Due.due("firstIndex(3) of five", Edges.ofCount(5).firstIndex(3), 3);
        });
        Edges.of(44, NO_NODE, () -> dueNoNodes("firstIndex", LazyRangeTree::firstIndex));
        Edges.of(45, IS_A_NODE, () -> eachNode("lastIndex", LazyRangeTree::lastIndex, (first, last) -> last));
        Edges.of(45, "Returns the index.", () -> {
            Due.due("lastIndex(2) of three", Edges.of(9, 9, 9).lastIndex(2), 1);
            Due.due("lastIndex(2) of four", Edges.of(9, 9, 9, 9).lastIndex(2), 1);
            Due.due("lastIndex(2) of five", Edges.ofCount(5).lastIndex(2), 2);
        });
        Edges.of(45, NO_NODE, () -> dueNoNodes("lastIndex", LazyRangeTree::lastIndex));
    }

    private static void summaries() {
        Edges.of(46, IS_A_NODE, () -> eachNode("storedSum", LazyRangeTree::storedSum,
                (first, last) -> (long) (first + last + 2) * (last - first + 1) / 2));
        Edges.of(46, "Returns the sum without the marks above the node.", () -> {
            LazyRangeTree x = Due.made("sequence 1 2 3 4;add 0 1 10;negate 0 3;");
            Due.due("storedSum(1), with its own mark", x.storedSum(1), -30L);
            Due.due("storedSum(2), with its own mark but not the root's", x.storedSum(2), 23L);
            Due.due("storedSum(3), without a mark", x.storedSum(3), 7L);
            Due.due("storedSum(4), without the marks above", x.storedSum(4), 1L);
            Due.due("storedSum(1) at the limits", Edges.atTheLimits().storedSum(1), 0L);
            LazyRangeTree far = Due.made("sequence 0;repeat 13(append 0;append 0;append 0;);repeat 10(repeat 10(add 0 39 9999;););add 0 39 100;");
            Due.due("storedSum(1) of forty at the limit", far.storedSum(1), 40000000L);
            far.negate(0, 39);
            Due.due("storedSum(1) of forty at the lower limit", far.storedSum(1), -40000000L);
        });
        Edges.of(46, NO_NODE, () -> dueNoNodes("storedSum", LazyRangeTree::storedSum));
        Edges.of(47, IS_A_NODE, () -> eachNode("storedLeast", LazyRangeTree::storedLeast, (first, last) -> first + 1));
        Edges.of(47, "Returns the least element without the marks above the node.", () -> {
            LazyRangeTree x = Due.made("sequence 1 2 3 4;add 0 1 10;negate 0 3;");
            Due.due("storedLeast(1), with its own mark", x.storedLeast(1), -12);
            Due.due("storedLeast(2), with its own mark but not the root's", x.storedLeast(2), 11);
            Due.due("storedLeast(3), without a mark", x.storedLeast(3), 3);
            Due.due("storedLeast(5), without the marks above", x.storedLeast(5), 2);
            Due.due("storedLeast(1) at the limits", Edges.atTheLimits().storedLeast(1), -1000000);
        });
        Edges.of(47, NO_NODE, () -> dueNoNodes("storedLeast", LazyRangeTree::storedLeast));
        Edges.of(48, IS_A_NODE, () -> eachNode("storedGreatest", LazyRangeTree::storedGreatest, (first, last) -> last + 1));
        Edges.of(48, "Returns the greatest element without the marks above the node.", () -> {
            LazyRangeTree x = Due.made("sequence 1 2 3 4;add 0 1 10;negate 0 3;");
            Due.due("storedGreatest(1), with its own mark", x.storedGreatest(1), -3);
            Due.due("storedGreatest(2), with its own mark but not the root's", x.storedGreatest(2), 12);
            Due.due("storedGreatest(3), without a mark", x.storedGreatest(3), 4);
            Due.due("storedGreatest(5), without the marks above", x.storedGreatest(5), 2);
            Due.due("storedGreatest(1) at the limits", Edges.atTheLimits().storedGreatest(1), 1000000);
        });
        Edges.of(48, NO_NODE, () -> dueNoNodes("storedGreatest", LazyRangeTree::storedGreatest));
    }

    private static void marks() {
        Edges.of(49, IS_A_NODE, () -> eachNode("markFactor", LazyRangeTree::markFactor, (first, last) -> 1));
        Edges.of(49, "Returns -1, 0 or 1; 1 for a leaf.", () -> {
            LazyRangeTree x = Edges.of(3, 4);
            x.negate(0, 1);
            Due.due("markFactor(1) behind negate()", x.markFactor(1), -1);
            x.negate(0, 1);
            Due.due("markFactor(1) behind two", x.markFactor(1), 1);
            x.assign(0, 1, 5);
            Due.due("markFactor(1) behind assign()", x.markFactor(1), 0);
            x.negate(0, 1);
            Due.due("markFactor(1) behind assign() and negate()", x.markFactor(1), 0);
            x.negate(0, 0);
            x.assign(1, 1, 6);
            Due.due("markFactor(1), pushed down", x.markFactor(1), 1);
            Due.due("markFactor(2) of a leaf behind negate()", x.markFactor(2), 1);
            Due.due("markFactor(3) of a leaf behind assign()", x.markFactor(3), 1);
            Due.due("markFactor(1) of one element", Due.made("sequence 1;negate 0 0;").markFactor(1), 1);
        });
        Edges.of(49, NO_NODE, () -> dueNoNodes("markFactor", LazyRangeTree::markFactor));
        Edges.of(50, IS_A_NODE, () -> eachNode("markOffset", LazyRangeTree::markOffset, (first, last) -> 0));
        Edges.of(50, "Returns the offset; 0 for a leaf.", () -> {
            LazyRangeTree x = Edges.of(3, 4);
            x.add(0, 1, 9999);
            Due.due("markOffset(1) behind add()", x.markOffset(1), 9999);
            x.add(0, 1, 9999);
            Due.due("markOffset(1) beyond every amount", x.markOffset(1), 19998);
            x.negate(0, 1);
            Due.due("markOffset(1) behind negate()", x.markOffset(1), -19998);
            x.assign(0, 1, -5);
            Due.due("markOffset(1) behind assign()", x.markOffset(1), -5);
            x.add(0, 0, 7);
            x.assign(1, 1, 6);
            Due.due("markOffset(1), pushed down", x.markOffset(1), 0);
            Due.due("markOffset(2) of a leaf behind add()", x.markOffset(2), 0);
            Due.due("markOffset(3) of a leaf behind assign()", x.markOffset(3), 0);
            Due.due("markOffset(1) of one element", Due.made("sequence 1;add 0 0 5;").markOffset(1), 0);
            LazyRangeTree far = Due.made("sequence 9999 9999;repeat 11(repeat 9(add 0 1 9999;););add 0 1 100;settle;");
            for (int i = 0; i < 200; i++) {
                far.add(0, 1, -9999);
            }
            far.add(0, 1, -200);
            Due.due("element(0)", far.element(0), -1000000);
            Due.due("markOffset(1) from limit to limit", far.markOffset(1), -2000000);
            far.negate(0, 1);
            Due.due("markOffset(1) from limit to limit, negated", far.markOffset(1), 2000000);
            Due.due("storedSum(1)", far.storedSum(1), 2000000L);
            far.pushAll();
            Due.due("storedSum(2), pushed down", far.storedSum(2), 1000000L);
        });
        Edges.of(50, NO_NODE, () -> dueNoNodes("markOffset", LazyRangeTree::markOffset));
    }

    private static void markedNodes() {
        Edges.of(51, "Returns the number of nodes whose mark is not empty.", () -> {
            LazyRangeTree x = Edges.ofCount(4);
            Due.due("markedNodes(), built", x.markedNodes(), 0);
            x.add(0, 0, 5);
            Due.due("markedNodes(), only a leaf changed", x.markedNodes(), 0);
            x.add(0, 1, 0);
            Due.due("markedNodes(), factor 1 and offset 0", x.markedNodes(), 0);
            x.assign(2, 3, 0);
            Due.due("markedNodes(), factor 0 and offset 0", x.markedNodes(), 1);
            x.negate(0, 1);
            Due.due("markedNodes(), factor -1 and offset 0", x.markedNodes(), 2);
            x.add(0, 3, -1);
            Due.due("markedNodes(), all that are no leaves", x.markedNodes(), 3);
            x.add(0, 3, 1);
            Due.due("markedNodes(), the root's empty again", x.markedNodes(), 2);
            x.pushAll();
            Due.due("markedNodes(), pushed down", x.markedNodes(), 0);
            Due.due("markedNodes() of one element", Due.made("sequence 1;assign 0 0 5;").markedNodes(), 0);
        });
        Edges.of(51, "Returns the number of nodes whose mark is not empty.", () -> {
            LazyRangeTree full = Edges.ofCount(40);
            int[][] nodes = Edges.nodes(40);
            int marked = 0;
            for (int node = nodes.length - 1; node >= 1; node--) {
                if (nodes[node] != null && nodes[node][0] < nodes[node][1]) {
                    full.add(nodes[node][0], nodes[node][1], 1);
                    marked++;
                    Due.due("markedNodes() behind a mark for node " + node, full.markedNodes(), marked);
                }
            }
            Due.due("markedNodes() of forty, all that are no leaves", marked, 39);
            full.removeLast();
            Due.due("markedNodes(), built again", full.markedNodes(), 0);
        });
    }

    private static void marksAbove() {
        Edges.of(52, "`index`: an index", () -> {
            LazyRangeTree x = Edges.ofCount(40);
            x.negate(0, 39);
            for (int index = 0; index < 40; index++) {
                Due.due("marksAbove(" + index + ")", x.marksAbove(index), 1);
            }
        });
        Edges.of(52, "Returns the number of nodes above the leaf whose mark is not empty.", () -> {
            Due.due("marksAbove(0), the root a leaf", Due.made("sequence 1;negate 0 0;").marksAbove(0), 0);
            LazyRangeTree x = Edges.ofCount(5);
            Due.due("marksAbove(0), no mark", x.marksAbove(0), 0);
            x.add(0, 1, 1);
            x.add(0, 2, 1);
            x.add(0, 4, 1);
            int[] above = {3, 3, 2, 1, 1};
            for (int index = 0; index < 5; index++) {
                Due.due("marksAbove(" + index + ")", x.marksAbove(index), above[index]);
            }
            x.pushDown(2);
            Due.due("marksAbove(2) behind pushDown(2)", x.marksAbove(2), 1);
            Due.due("marksAbove(1) behind pushDown(2)", x.marksAbove(1), 2);
            x.pushAll();
            Due.due("marksAbove(0), pushed down", x.marksAbove(0), 0);
        });
        Edges.of(52, "Throws `IndexOutOfBoundsException` if `index` is not an index", () ->
                RangeEdgesTest.indexes("marksAbove", LazyRangeTree::marksAbove));
    }
}
