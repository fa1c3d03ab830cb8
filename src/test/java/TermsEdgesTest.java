/** The sequence, the tree, marks, pushing down, updates and building in "Terms", sentence by sentence at their boundaries. */
public final class TermsEdgesTest {
    private static final int[] SIGNED = {-9999, -1, 0, 1, 9999};

    public static void main(String[] args) {
        all();
        Due.close();
    }

    static void all() {
        calls();
        theSequence();
        theElements();
        theTree();
        theMarks();
        theSummaries();
        applying();
        combining();
        pushingDown();
        updates();
        updatesGoOn();
        refusedAdding();
        questions();
        building();
    }

    private static void terms(String words, Runnable test) {
        Edges.of(Edges.TERMS, words, test);
    }

    private static void calls() {
        terms("each update leaves marks at a few nodes, and marks are pushed down only when it is necessary", () -> {
            LazyRangeTree x = Edges.ofCount(40);
            x.negate(0, 39);
            Due.due("marks of an update of forty elements", Due.marks(x), "1:-1,0");
            x.add(0, 38, 1);
            Due.due("pushCount() of an update that leaves out one of them", x.pushCount(), 5);
            x.add(0, 39, 1);
            Due.due("pushCount() of an update of all", x.pushCount(), 5);
        });
        terms("The tree answers questions about sums, least and greatest elements, runs and order, and shows its nodes and marks.", () -> {
            LazyRangeTree x = Due.made("sequence 2 2 5;add 0 2 1;");
            Due.due("answers", x.sum(0, 2) + " " + x.least(0, 2) + " " + x.greatest(0, 2) + " " + x.runCount(0, 2) + " " + x.isAscending(0, 2)
                    + " " + x.isDescending(0, 2) + " " + x.nodeCount() + " " + Due.marks(x), "12 3 6 2 true false 5 1:1,1");
        });
        terms("The constants: `NONE = -1`: Returned if there is no such value.", () -> Due.due("NONE", LazyRangeTree.NONE, -1));
        terms("An object is used for at most 512 calls after it has been made", () -> {
            LazyRangeTree x = new LazyRangeTree();
            for (int call = 1; call <= 510; call++) {
                Due.due("call " + call, x.add(0, 9, 1), 1);
            }
            Due.due("call 511", x.element(0), 506);
            Due.due("call 512", x.sum(0, 9), 5093L);
            LazyRangeTree y = new LazyRangeTree();
            for (int call = 1; call < 512; call += 2) {
                y.appendElement(call);
                Due.due("call " + (call + 1), y.undo(), 0);
            }
            LazyRangeTree z = new LazyRangeTree();
            for (int call = 1; call < 512; call++) {
                z.pushAll();
            }
            Due.due("call 512", z.undoCount(), 8);
        });
    }

    private static void theSequence() {
        String words = "It has 1 to 40 elements with the indexes 0, 1, and so on.";
        terms(words, () -> {
            LazyRangeTree x = Edges.of(7);
            Due.due("elementCount()", x.elementCount(), 1);
            Due.due("element(0)", x.element(0), 7);
            Due.dueIndex("element(1)", () -> x.element(1));
            Due.dueIndex("element(-1)", () -> x.element(-1));
            Due.dueState("removeLast()", x::removeLast);
            LazyRangeTree two = Edges.of(7, 8);
            Due.due("removeLast() of two", Due.outcome(two::removeLast), 8);
            LazyRangeTree none = new LazyRangeTree();
            Due.due("runScript() without a value", Due.run(none, "sequence;"), -1);
            Due.due("scriptErrorKind()", none.scriptErrorKind(), 1);
        });
        terms(words, () -> {
            LazyRangeTree x = Edges.ofCount(40);
            Due.due("elementCount()", x.elementCount(), 40);
            Due.due("element(39)", x.element(39), 40);
            Due.dueIndex("element(40)", () -> x.element(40));
            Due.dueState("appendElement(41)", () -> x.appendElement(41));
            LazyRangeTree fewer = Edges.ofCount(39);
            Due.due("appendElement(40) to 39", Due.outcome(() -> fewer.appendElement(40)), 40);
            Due.due("element(39)", fewer.element(39), 40);
            LazyRangeTree more = new LazyRangeTree();
            Due.due("runScript() of 41 values", Due.run(more, Edges.script(Edges.upTo(41))), -1);
            Due.due("scriptErrorKind()", more.scriptErrorKind(), 3);
        });
    }

    private static void theElements() {
        String words = "Every element is an integer from -1000000 to 1000000.";
        terms(words, () -> {
            LazyRangeTree x = Edges.atTheLimits();
            Due.due("elements", Due.elements(x), "1000000 -1000000 0");
            Due.dueState("add(0, 0, 1)", () -> x.add(0, 0, 1));
            Due.dueState("add(1, 1, -1)", () -> x.add(1, 1, -1));
            Due.due("add(0, 0, 0)", Due.outcome(() -> x.add(0, 0, 0)), 1);
            Due.due("add(0, 0, -1)", Due.outcome(() -> x.add(0, 0, -1)), 1);
            Due.due("add(0, 0, 1)", Due.outcome(() -> x.add(0, 0, 1)), 1);
            Due.due("add(1, 1, 1)", Due.outcome(() -> x.add(1, 1, 1)), 1);
            Due.due("add(1, 1, -1)", Due.outcome(() -> x.add(1, 1, -1)), 1);
            Due.due("elements", Due.elements(x), "1000000 -1000000 0");
        });
        terms(words, () -> {
            LazyRangeTree x = Edges.atTheLimits();
            x.negate(0, 1);
            Due.due("elements negated", Due.elements(x), "-1000000 1000000 0");
            x.negate(0, 2);
            x.pushAll();
            Due.due("elements negated again", Due.elements(x), "1000000 -1000000 0");
            x.appendElement(1);
            x.removeLast();
            x.removeLast();
            Due.due("elements built again", Due.elements(x), "1000000 -1000000");
            Due.due("violations()", x.violations(), 0);
        });
    }

    private static void theTree() {
        int[] counts = {1, 2, 3, 4, 5, 7, 8, 9, 15, 16, 17, 31, 32, 33, 39, 40};
        terms("Node 1 is the root and stands for all indexes.", () -> {
            for (int n : counts) {
                LazyRangeTree x = Edges.ofCount(n);
                Due.due("firstIndex(1) of " + n, x.firstIndex(1), 0);
                Due.due("lastIndex(1) of " + n, x.lastIndex(1), n - 1);
                Due.dueIndex("firstIndex(0) of " + n, () -> x.firstIndex(0));
            }
        });
        terms("A node that stands for a single index is a leaf.", () -> {
            for (int n : counts) {
                LazyRangeTree x = Edges.ofCount(n);
                int[][] nodes = Edges.nodes(n);
                for (int node = 1; node < nodes.length; node++) {
                    if (nodes[node] != null) {
                        Due.due("isLeaf(" + node + ") of " + n, x.isLeaf(node), nodes[node][0] == nodes[node][1]);
                    }
                }
            }
        });
        terms("Each node stands for a range of indexes.", () -> {
            for (int n : counts) {
                LazyRangeTree x = Edges.ofCount(n);
                int[][] nodes = Edges.nodes(n);
                for (int node = 1; node < 130; node++) {
                    int number = node;
                    if (nodes[node] == null) {
                        Due.dueIndex("lastIndex(" + node + ") of " + n, () -> x.lastIndex(number));
                    }
                }
            }
        });
        terms("The node i that stands for the indexes from a to b, where a is less than b, has the children 2 * i, which stands for the indexes "
                + "from a to m, and 2 * i + 1, which stands for the indexes from m + 1 to b; m is (a + b) / 2, rounded down.", () -> {
            for (int n : counts) {
                LazyRangeTree x = Edges.ofCount(n);
                int[][] nodes = Edges.nodes(n);
                for (int node = 1; node < nodes.length; node++) {
                    if (nodes[node] != null) {
                        Due.due("firstIndex(" + node + ") of " + n, x.firstIndex(node), nodes[node][0]);
                        Due.due("lastIndex(" + node + ") of " + n, x.lastIndex(node), nodes[node][1]);
                    }
                }
            }
            LazyRangeTree x = Edges.ofCount(6);
            Due.due("lastIndex(2), of (0 + 5) / 2", x.lastIndex(2), 2);
            Due.due("lastIndex(4), of (0 + 2) / 2", x.lastIndex(4), 1);
            Due.due("lastIndex(6), of (3 + 5) / 2", x.lastIndex(6), 4);
            Due.due("lastIndex(12), of (3 + 4) / 2", x.lastIndex(12), 3);
        });
    }

    // ---- marks

    /** Gives the node of a range the mark; the node's own mark is to be empty before. */
    private static void mark(LazyRangeTree x, int from, int to, int factor, int offset) {
        if (factor == 0) {
            x.assign(from, to, offset);
        } else {
            if (factor < 0) {
                x.negate(from, to);
            }
            x.add(from, to, offset);
        }
    }

    private static void theMarks() {
        terms("A mark has a factor (-1, 0 or 1) and an offset; to apply it to an element means to replace the element by the factor times the element plus the offset.", () -> {
            for (int factor = -1; factor <= 1; factor++) {
                for (int offset : SIGNED) {
                    LazyRangeTree x = Edges.of(3, -4);
                    mark(x, 0, 1, factor, offset);
                    Due.due("markFactor(1)", x.markFactor(1), factor);
                    Due.due("markOffset(1)", x.markOffset(1), offset);
                    Due.due("elements under " + factor + "," + offset, Due.elements(x), (3 * factor + offset) + " " + (-4 * factor + offset));
                    x.pushAll();
                    Due.due("elements pushed down", Due.elements(x), (3 * factor + offset) + " " + (-4 * factor + offset));
                }
            }
        });
        terms("The mark with the factor 1 and the offset 0 is empty.", () -> {
            for (int factor = -1; factor <= 1; factor++) {
                for (int offset = -1; offset <= 1; offset++) {
                    LazyRangeTree x = Edges.of(3, -4);
                    mark(x, 0, 1, factor, offset);
                    boolean empty = factor == 1 && offset == 0;
                    String name = " of the mark " + factor + "," + offset;
                    Due.due("markedNodes()" + name, x.markedNodes(), empty ? 0 : 1);
                    Due.due("marksAbove(0)" + name, x.marksAbove(0), empty ? 0 : 1);
                    Due.due("pushesFor(0, 0)" + name, x.pushesFor(0, 0), empty ? 0 : 1);
                    Due.due("pushDown(1)" + name, x.pushDown(1), !empty);
                }
            }
        });
        terms("Every node that is not a leaf has a mark, which is to be applied to all elements below the node but has not been applied to its children yet.", () -> {
            LazyRangeTree x = Edges.of(1, 2, 3);
            x.negate(0, 2);
            Due.due("elements, all below the node", Due.elements(x), "-1 -2 -3");
            Due.due("storedSum(2), a child", x.storedSum(2), 3L);
            Due.due("storedSum(3), a child that is a leaf", x.storedSum(3), 3L);
            Due.due("storedSum(4), below a child", x.storedSum(4), 1L);
            Due.due("marks", Due.marks(x), "1:-1,0");
            LazyRangeTree one = Edges.of(1);
            one.negate(0, 0);
            Due.due("marks, the root a leaf", Due.marks(one), "");
        });
    }

    private static void theSummaries() {
        terms("Every node also keeps a summary (sum, least and greatest element and more) of its elements as they would be "
                + "if the mark of this node and all marks below it had been applied, but no marks above it.", () -> {
            LazyRangeTree x = Due.made("sequence 1 2 3 4 5 6 7 8;add 0 1 10;negate 0 3;add 0 7 1000;");
            Due.due("marks", Due.marks(x), "1:1,1000 2:-1,0 4:1,10");
            Due.due("summary of 1", x.storedSum(1) + " " + x.storedLeast(1) + " " + x.storedGreatest(1), "7996 988 1008");
            Due.due("summary of 2", x.storedSum(2) + " " + x.storedLeast(2) + " " + x.storedGreatest(2), "-30 -12 -3");
            Due.due("summary of 4", x.storedSum(4) + " " + x.storedLeast(4) + " " + x.storedGreatest(4), "23 11 12");
            Due.due("summary of 5", x.storedSum(5) + " " + x.storedLeast(5) + " " + x.storedGreatest(5), "7 3 4");
            Due.due("summary of 8", x.storedSum(8) + " " + x.storedLeast(8) + " " + x.storedGreatest(8), "1 1 1");
            Due.due("summary of 3", x.storedSum(3) + " " + x.storedLeast(3) + " " + x.storedGreatest(3), "26 5 8");
        });
    }

    private static void applying() {
        terms("If the node is a leaf, its element is replaced.", () -> {
            for (int factor = -1; factor <= 1; factor++) {
                for (int offset : SIGNED) {
                    LazyRangeTree one = Edges.of(7);
                    mark(one, 0, 0, factor, offset);
                    Due.due("summary of a leaf that is the root", one.storedSum(1) + " " + one.storedLeast(1) + " " + one.storedGreatest(1),
                            (7 * factor + offset) + " " + (7 * factor + offset) + " " + (7 * factor + offset));
                    Due.due("mark of a leaf", one.markFactor(1) + "," + one.markOffset(1), "1,0");
                    LazyRangeTree two = Edges.of(7, 8);
                    mark(two, 1, 1, factor, offset);
                    Due.due("storedSum(3)", two.storedSum(3), 8L * factor + offset);
                    Due.due("marks", Due.marks(two), "");
                    LazyRangeTree pushed = Edges.of(7, 8);
                    mark(pushed, 0, 1, factor, offset);
                    pushed.pushAll();
                    Due.due("storedSum(2) behind a push", pushed.storedSum(2), 7L * factor + offset);
                    Due.due("marks behind a push", Due.marks(pushed), "");
                }
            }
        });
    }

    private static void combining() {
        terms("Otherwise the summary of the node changes accordingly, and the mark of the node becomes the combination of its mark and the new one: "
                + "with the factor f and the offset g of its mark and the factor p and the offset q of the new one, "
                + "the factor p * f and the offset p * g + q.", () -> {
            for (int f = -1; f <= 1; f++) {
                for (int p = -1; p <= 1; p++) {
                    for (int g = -7; g <= 7; g += 7) {
                        for (int q = -7; q <= 7; q += 7) {
                            combine(f, g, p, q);
                        }
                    }
                }
            }
        });
    }

    private static void combine(int f, int g, int p, int q) {
        LazyRangeTree x = Edges.of(2, -5, 1, 1);
        mark(x, 0, 1, f, g);
        mark(x, 0, 3, p, q);
        String name = " of " + f + "," + g + " and " + p + "," + q;
        Due.due("marks above each other" + name, x.markFactor(2) + "," + x.markOffset(2) + " " + x.markFactor(1) + "," + x.markOffset(1),
                f + "," + g + " " + p + "," + q);
        x.pushDown(1);
        Due.due("mark" + name, x.markFactor(2) + "," + x.markOffset(2), p * f + "," + (p * g + q));
        int a = p * (f * 2 + g) + q;
        int b = p * (f * -5 + g) + q;
        Due.due("summary" + name, x.storedSum(2) + " " + x.storedLeast(2) + " " + x.storedGreatest(2),
                (a + b) + " " + Math.min(a, b) + " " + Math.max(a, b));
        Due.due("elements" + name, x.element(0) + " " + x.element(1), a + " " + b);
    }

    // ---- pushing down

    private static void pushingDown() {
        terms("To push down the mark of a node means to apply it to both children and to make the mark of the node empty.", () -> {
            LazyRangeTree x = Due.made("sequence 1 2 3;assign 0 2 4;");
            x.pushDown(1);
            Due.due("storedSum(2)", x.storedSum(2), 8L);
            Due.due("storedSum(3)", x.storedSum(3), 4L);
            Due.due("storedSum(4), not below the children", x.storedSum(4), 1L);
            Due.due("storedSum(1) stays", x.storedSum(1), 12L);
            Due.due("marks", Due.marks(x), "2:0,4");
            x.pushDown(2);
            Due.due("storedSum(4)", x.storedSum(4), 4L);
            Due.due("storedSum(5)", x.storedSum(5), 4L);
            Due.due("marks", Due.marks(x), "");
        });
        terms("If the mark is empty, this does nothing and does not count as a push.", () -> {
            LazyRangeTree x = Due.made("sequence 1 2 3;negate 0 1;");
            String before = Due.state(x);
            Due.due("pushDown(1)", x.pushDown(1), false);
            Due.due("all behind a push of an empty mark", Due.state(x), before);
            Due.due("pushCount()", x.pushCount(), 0);
            x.add(2, 2, 1);
            Due.due("pushCount() behind an update by way of an empty mark", x.pushCount(), 0);
            Due.due("pushDown(2)", x.pushDown(2), true);
            Due.due("pushCount() behind a push", x.pushCount(), 1);
            Due.due("pushAll()", x.pushAll(), 0);
            Due.due("pushCount() behind pushAll() of empty marks", x.pushCount(), 1);
        });
    }

    // ---- updates

    private static void updates() {
        terms("Assigning a value to a range has the mark with the factor 0 and the value as offset; adding an amount has the factor 1 and the amount as offset; "
                + "negating has the factor -1 and the offset 0.", () -> {
            for (int value : SIGNED) {
                LazyRangeTree x = Edges.of(3, 4);
                x.assign(0, 1, value);
                Due.due("mark of assign", x.markFactor(1) + "," + x.markOffset(1), "0," + value);
                LazyRangeTree y = Edges.of(3, 4);
                y.add(0, 1, value);
                Due.due("mark of add", y.markFactor(1) + "," + y.markOffset(1), "1," + value);
            }
            LazyRangeTree z = Edges.of(3, 4);
            z.negate(0, 1);
            Due.due("mark of negate", z.markFactor(1) + "," + z.markOffset(1), "-1,0");
        });
        terms("An update starts at the root.", () -> {
            LazyRangeTree x = Due.made("sequence 1 2 3 4;add 0 1 1;add 2 3 1;");
            x.negate(0, 3);
            Due.due("marks, the root's and those below it", Due.marks(x), "1:-1,0 2:1,1 3:1,1");
            Due.due("pushCount()", x.pushCount(), 0);
            Due.due("visitedFor(0, 3)", x.visitedFor(0, 3), 1);
        });
        terms("If all indexes of a node belong to the range, the mark of the update is applied to the node.", () -> {
            int[][] ranges = {{0, 7}, {0, 6}, {1, 7}, {0, 3}, {1, 3}, {0, 2}, {4, 7}, {5, 7}, {4, 6}, {2, 3}, {3, 3}, {2, 2}, {3, 4}, {2, 5}, {1, 6}};
            String[] marked = {"1", "2 6", "3 5", "2", "5", "4", "3", "7", "6", "5", "", "", "", "5 6", "5 6"};
            for (int i = 0; i < ranges.length; i++) {
                LazyRangeTree x = Edges.ofCount(8);
                x.add(ranges[i][0], ranges[i][1], 5);
                StringBuilder due = new StringBuilder();
                for (String node : marked[i].split(" ")) {
                    due.append(node.isEmpty() ? "" : (due.length() == 0 ? "" : " ") + node + ":1,5");
                }
                Due.due("marks behind add(" + ranges[i][0] + ", " + ranges[i][1] + ")", Due.marks(x), due.toString());
            }
        });
    }

    private static void updatesGoOn() {
        terms("Otherwise the mark of the node is pushed down, the update goes on with those children that have an index in the range (the left one first), "
                + "and the summary of the node is computed again from its children.", () -> {
            LazyRangeTree x = Due.made("sequence 1 2 3 4 5 6 7 8;negate 0 3;negate 4 7;add 0 7 1;");
            x.assign(3, 3, 9);
            Due.due("marks, those of the other children stay", Due.marks(x), "3:-1,1 4:-1,1");
            Due.due("pushCount()", x.pushCount(), 3);
            Due.due("storedSum(2), computed again", x.storedSum(2), 6L);
            Due.due("storedGreatest(2), computed again", x.storedGreatest(2), 9);
            Due.due("storedGreatest(1), computed again", x.storedGreatest(1), 9);
            Due.due("storedSum(1), computed again", x.storedSum(1), -16L);
            x.assign(4, 4, -50);
            Due.due("marks behind the right child's", Due.marks(x), "4:-1,1 7:-1,1");
            Due.due("storedLeast(3), computed again", x.storedLeast(3), -50);
            Due.due("storedLeast(1), computed again", x.storedLeast(1), -50);
        });
        terms("those children that have an index in the range", () -> {
            LazyRangeTree x = Due.made("sequence 1 2 3 4 5 6 7 8;negate 0 3;negate 4 7;");
            x.add(3, 4, 1);
            Due.due("marks, the range touches both children", Due.marks(x), "4:-1,0 7:-1,0");
            LazyRangeTree y = Due.made("sequence 1 2 3 4 5 6 7 8;negate 0 3;negate 4 7;");
            y.add(2, 3, 1);
            Due.due("marks, the range ends with the left child", Due.marks(y), "3:-1,0 4:-1,0 5:-1,1");
            LazyRangeTree z = Due.made("sequence 1 2 3 4 5 6 7 8;negate 0 3;negate 4 7;");
            z.add(4, 5, 1);
            Due.due("marks, the range begins with the right child", Due.marks(z), "2:-1,0 6:-1,1 7:-1,0");
        });
        terms("(the left one first)", () -> {
            LazyRangeTree x = Edges.ofCount(8);
            for (int position = 0; position < 4; position++) {
                Due.due("appliedNode(1, 6, " + position + ")", x.appliedNode(1, 6, position), new int[] {9, 5, 6, 14}[position]);
            }
        });
    }

    private static void refusedAdding() {
        terms("An update by adding is refused if an element would become less than -1000000 or greater than 1000000.", () -> {
            for (int way = 0; way < 3; way++) {
                LazyRangeTree x = Edges.atTheLimits();
                if (way == 1) {
                    x.pushAll();
                } else if (way == 2) {
                    x.negate(0, 2);
                    x.negate(0, 2);
                }
                Due.dueState("add(0, 0, 1) to 1000000", () -> x.add(0, 0, 1));
                Due.dueState("add(0, 2, 1), the first one of the range at the limit", () -> x.add(0, 2, 1));
                Due.dueState("add(1, 1, -1) to -1000000", () -> x.add(1, 1, -1));
                Due.dueState("add(1, 2, -1), the first one of the range at the limit", () -> x.add(1, 2, -1));
                Due.dueState("add(0, 1, -1), the last one of the range at the limit", () -> x.add(0, 1, -1));
                Due.due("elements behind the refused ones", Due.elements(x), "1000000 -1000000 0");
                Due.due("add(1, 2, 1), the one at the limit is not of the range", Due.outcome(() -> x.add(1, 2, 1)), 2);
                Due.due("add(2, 2, -1), those at the limit are not of the range", Due.outcome(() -> x.add(2, 2, -1)), 1);
                Due.due("add(0, 1, -1), down to the limit", Due.outcome(() -> x.add(0, 1, -1)), 1);
                Due.due("elements", Due.elements(x), "999999 -1000000 0");
                Due.due("add(0, 1, 1), up to the limit", Due.outcome(() -> x.add(0, 1, 1)), 1);
                Due.due("elements", Due.elements(x), "1000000 -999999 0");
            }
        });
        terms("An update by adding is refused", () -> {
            LazyRangeTree x = Edges.atTheLimits();
            Due.due("assign(0, 0, 9999) is not refused", Due.outcome(() -> x.assign(0, 0, 9999)), 1);
            Due.due("negate(0, 2) is not refused", Due.outcome(() -> x.negate(0, 2)), 1);
            Due.due("elements", Due.elements(x), "-9999 1000000 0");
        });
    }

    // ---- questions and building

    private static void questions() {
        terms("Questions never change marks.", () -> {
            LazyRangeTree x = Due.made("sequence 1 2 3 4 5;add 0 1 1;negate 0 2;add 0 4 7;");
            String before = Due.state(x);
            askRanges(x);
            askTheRest(x);
            Due.due("all behind questions", Due.state(x), before);
            Due.due("marks", Due.marks(x), "1:1,7 2:-1,0 4:1,1");
            Due.due("undoCount()", x.undoCount(), 1);
        });
    }

    private static void askRanges(LazyRangeTree x) {
        x.sum(1, 3);
        x.least(1, 3);
        x.greatest(1, 3);
        x.firstLeast(1, 3);
        x.firstGreatest(1, 3);
        x.leastCount(1, 3);
        x.greatestCount(1, 3);
        x.runCount(1, 3);
        x.isAscending(1, 3);
        x.isDescending(1, 3);
        x.steepestStep(1, 3);
        x.mean(1, 3);
        x.greatestShare(1, 3);
        x.distinctCount(1, 3);
        x.appliedFor(1, 3);
        x.appliedNode(1, 3, 1);
        x.visitedFor(1, 3);
        x.pushesFor(1, 3);
        x.canAdd(1, 3, 5);
        x.greatestAddition(1, 3);
        x.totalIfAssigned(1, 3, 5);
        x.writeRange(1, 3);
    }

    private static void askTheRest(LazyRangeTree x) {
        x.element(1);
        x.firstAtLeast(1, 100);
        x.firstBelow(1, -100);
        x.lastAtLeast(3, 100);
        x.longestRun(4);
        x.occurrence(4, 1);
        x.prefixAtLeast(1000);
        x.nodeCount();
        x.depth();
        x.leafOf(1);
        x.isLeaf(8);
        x.storedSum(8);
        x.storedLeast(8);
        x.storedGreatest(8);
        x.markedNodes();
        x.marksAbove(1);
        x.violations();
        x.reportByte(0);
        x.saveSnapshot();
        x.undoCount();
    }

    private static void building() {
        terms("When the tree is built from a sequence, all marks are empty.", () -> {
            for (int n : new int[] {1, 2, 3, 39, 40}) {
                Due.due("markedNodes() of " + n, Edges.ofCount(n).markedNodes(), 0);
            }
            LazyRangeTree x = Due.made("sequence 1 2 3 4;add 0 1 1;add 2 3 1;negate 0 3;");
            Due.due("markedNodes()", x.markedNodes(), 3);
            x.appendElement(5);
            Due.due("markedNodes() behind appendElement()", x.markedNodes(), 0);
            x.undo();
            Due.due("markedNodes() behind undo()", x.markedNodes(), 3);
            x.removeLast();
            Due.due("markedNodes() behind removeLast()", x.markedNodes(), 0);
            x.undo();
            Due.run(x, "sequence 1 2 3 4;");
            Due.due("markedNodes() behind a script", x.markedNodes(), 0);
            Due.due("pushCount(), nothing was pushed", x.pushCount(), 0);
        });
    }
}
