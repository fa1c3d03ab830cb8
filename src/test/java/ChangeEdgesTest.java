/** Promises 5 to 11, sentence by sentence at their boundaries. */
public final class ChangeEdgesTest {
    public static void main(String[] args) {
        all();
        Due.close();
    }

    static void all() {
        assigning();
        adding();
        refusedAdding();
        negating();
        pushing();
        pushingAll();
        appending();
        appendingAtTheLimits();
        removing();
    }

    private interface OfValue {
        Object answer(LazyRangeTree x, int value);
    }

    private interface Change {
        int of(int element);
    }

    private static String changed(int[] values, int from, int to, Change change) {
        int[] after = values.clone();
        for (int i = from; i <= to; i++) {
            after[i] = change.of(values[i]);
        }
        return Edges.applied(values.length, from, to).size() + ": " + Edges.text(after);
    }

    /** The values that are out of range, with their neighbours that are not. */
    private static void values(int promise, String name, String bounds, String refusal, OfValue call) {
        Edges.of(promise, bounds, () -> {
            for (int value : new int[] {-9999, -9998, -1, 0, 1, 9998, 9999}) {
                LazyRangeTree x = Edges.of(3, 3);
                Due.due(name + " of " + value + " throws", Due.outcome(() -> call.answer(x, value)).toString().startsWith("throws"), false);
            }
        });
        Edges.of(promise, refusal, () -> {
            for (int value : new int[] {-10000, 10000, -10001, 10001, Integer.MIN_VALUE, Integer.MIN_VALUE + 1, Integer.MAX_VALUE}) {
                LazyRangeTree x = Edges.of(3, 3);
                String before = Due.state(x);
                Due.dueArgument(name + " of " + value, () -> call.answer(x, value));
                Due.due("all behind a refused " + name, Due.state(x), before);
                Due.due("undoCount() behind a refused " + name, x.undoCount(), 1);
            }
        });
    }

    private static void assigning() {
        RangeEdges.of(5, "assign", (x, from, to) -> x.assign(from, to, -7) + ": " + Due.elements(x),
                (values, from, to) -> changed(values, from, to, element -> -7));
        values(5, "assign", "`value`: -9999 to 9999", "or `value` is out of range", (x, value) -> x.assign(0, 1, value));
        Edges.of(5, "Assigns a value to all elements of a range.", () -> {
            for (int value : new int[] {-9999, -1, 0, 1, 9999}) {
                LazyRangeTree x = Edges.of(1, 2, 3);
                x.assign(1, 2, value);
                Due.due("elements", Due.elements(x), "1 " + value + " " + value);
            }
            LazyRangeTree far = Edges.atTheLimits();
            far.assign(0, 1, 9999);
            Due.due("elements that were at the limits", Due.elements(far), "9999 9999 0");
        });
        Edges.of(5, "Returns the number of nodes to which the mark of the update was applied.", () -> {
            Due.due("assign(0, 0) of one element", Edges.of(4).assign(0, 0, 4), 1);
            for (int n : new int[] {2, 39, 40}) {
                for (int[] range : new int[][] {{0, n - 1}, {0, n - 2}, {1, n - 1}, {n / 2, n - 1}, {0, 0}, {n - 1, n - 1}}) {
                    Due.due("assign(" + range[0] + ", " + range[1] + ") of " + n, Edges.ofCount(n).assign(range[0], range[1], 3),
                            Edges.applied(n, range[0], range[1]).size());
                }
            }
            LazyRangeTree x = Edges.of(3, 3);
            Due.due("assign() of the value that stands there", x.assign(0, 1, 3), 1);
            Due.due("undoCount()", x.undoCount(), 2);
        });
        Edges.of(Edges.TERMS, "If several exceptions apply to a call, the one that is listed first is thrown.", () -> {
            LazyRangeTree x = Edges.of(1, 2);
            Due.dueIndex("assign(0, 2, 10000)", () -> x.assign(0, 2, 10000));
            Due.dueIndex("assign(-1, 0, -10000)", () -> x.assign(-1, 0, -10000));
            Due.dueArgument("assign(1, 0, 10000)", () -> x.assign(1, 0, 10000));
        });
    }

    private static void adding() {
        RangeEdges.of(6, "add", (x, from, to) -> x.add(from, to, -7) + ": " + Due.elements(x),
                (values, from, to) -> changed(values, from, to, element -> element - 7));
        values(6, "add", "`amount`: -9999 to 9999", "or `amount` is out of range", (x, amount) -> x.add(0, 1, amount));
        Edges.of(6, "Adds an amount to all elements of a range.", () -> {
            for (int amount : new int[] {-9999, -1, 0, 1, 9999}) {
                LazyRangeTree x = Edges.of(1, 2, 3);
                x.add(1, 2, amount);
                Due.due("elements", Due.elements(x), "1 " + (2 + amount) + " " + (3 + amount));
            }
        });
        Edges.of(6, "Returns the number of nodes to which the mark of the update was applied.", () -> {
            Due.due("add(0, 0) of one element", Edges.of(4).add(0, 0, 4), 1);
            for (int n : new int[] {2, 39, 40}) {
                for (int[] range : new int[][] {{0, n - 1}, {0, n - 2}, {1, n - 1}, {n / 2, n - 1}, {0, 0}, {n - 1, n - 1}}) {
                    Due.due("add(" + range[0] + ", " + range[1] + ") of " + n, Edges.ofCount(n).add(range[0], range[1], 3),
                            Edges.applied(n, range[0], range[1]).size());
                }
            }
            LazyRangeTree x = Edges.of(3, 3, 3);
            Due.due("add() of 0", x.add(0, 1, 0), 1);
            Due.due("updateCount()", x.updateCount(), 1);
        });
    }

    private static void refusedAdding() {
        Edges.of(6, "Throws `IllegalStateException` if the update is refused", () -> {
            LazyRangeTree x = Edges.atTheLimits();
            x.add(0, 0, -5);
            x.add(1, 1, 5);
            String before = Due.state(x);
            int undos = x.undoCount();
            Due.dueState("add(0, 0, 6) to 999995", () -> x.add(0, 0, 6));
            Due.dueState("add(0, 0, 9999) to 999995", () -> x.add(0, 0, 9999));
            Due.dueState("add(1, 1, -6) to -999995", () -> x.add(1, 1, -6));
            Due.dueState("add(1, 1, -9999) to -999995", () -> x.add(1, 1, -9999));
            Due.dueState("add(0, 2, 6), the first one of the range", () -> x.add(0, 2, 6));
            Due.dueState("add(0, 1, -6), the last one of the range", () -> x.add(0, 1, -6));
            Due.due("all behind the refused ones", Due.state(x), before);
            Due.due("undoCount() behind the refused ones", x.undoCount(), undos);
            Due.due("add(0, 2, 5), up to the limit", Due.outcome(() -> x.add(0, 2, 5)), 1);
            x.undo();
            Due.due("add(0, 2, -5), down to the limit", Due.outcome(() -> x.add(0, 2, -5)), 1);
            x.undo();
            Due.due("add(1, 2, 9999), away from the limit", Due.outcome(() -> x.add(1, 2, 9999)), 2);
            Due.due("add(0, 0, -9999), away from the limit", Due.outcome(() -> x.add(0, 0, -9999)), 1);
        });
        Edges.of(Edges.TERMS, "If several exceptions apply to a call, the one that is listed first is thrown.", () -> {
            LazyRangeTree x = Edges.atTheLimits();
            Due.dueIndex("add(0, 3, 1)", () -> x.add(0, 3, 1));
            Due.dueIndex("add(0, 3, 10000)", () -> x.add(0, 3, 10000));
            Due.dueArgument("add(0, 0, 10000)", () -> x.add(0, 0, 10000));
            Due.dueArgument("add(1, 1, -10000)", () -> x.add(1, 1, -10000));
            Due.dueArgument("add(1, 0, 1)", () -> x.add(1, 0, 1));
            Due.dueArgument("add(0, 0, highest)", () -> x.add(0, 0, Integer.MAX_VALUE));
            Due.dueArgument("add(1, 1, lowest)", () -> x.add(1, 1, Integer.MIN_VALUE));
            Due.dueState("add(0, 1, 1)", () -> x.add(0, 1, 1));
        });
    }

    private static void negating() {
        RangeEdges.of(7, "negate", (x, from, to) -> x.negate(from, to) + ": " + Due.elements(x),
                (values, from, to) -> changed(values, from, to, element -> -element));
        Edges.of(7, "Negates all elements of a range.", () -> {
            LazyRangeTree x = Edges.atTheLimits();
            x.negate(0, 2);
            Due.due("elements from limit to limit", Due.elements(x), "-1000000 1000000 0");
            x.negate(0, 0);
            Due.due("elements", Due.elements(x), "1000000 1000000 0");
            Due.due("violations()", x.violations(), 0);
        });
        Edges.of(7, "Returns the number of nodes to which the mark of the update was applied.", () -> {
            Due.due("negate(0, 0) of one element", Edges.of(0).negate(0, 0), 1);
            for (int n : new int[] {2, 39, 40}) {
                for (int[] range : new int[][] {{0, n - 1}, {0, n - 2}, {1, n - 1}, {n / 2, n - 1}, {0, 0}, {n - 1, n - 1}}) {
                    Due.due("negate(" + range[0] + ", " + range[1] + ") of " + n, Edges.ofCount(n).negate(range[0], range[1]),
                            Edges.applied(n, range[0], range[1]).size());
                }
            }
        });
    }

    private static void pushing() {
        Edges.of(8, "Pushes down the mark of a node.", () -> {
            LazyRangeTree x = Due.made("sequence 1 2 3 4 5;add 0 1 1;add 0 2 10;add 0 4 100;");
            Due.due("marks", Due.marks(x), "1:1,100 2:1,10 4:1,1");
            x.pushDown(2);
            Due.due("marks behind pushDown(2)", Due.marks(x), "1:1,100 4:1,11");
            x.pushDown(1);
            Due.due("marks behind pushDown(1)", Due.marks(x), "2:1,100 3:1,100 4:1,11");
            x.pushDown(4);
            Due.due("marks behind pushDown(4)", Due.marks(x), "2:1,100 3:1,100");
            Due.due("storedSum(9)", x.storedSum(9), 13L);
            Due.due("elements", Due.elements(x), "112 113 113 104 105");
        });
        Edges.of(8, "Returns whether the mark was not empty.", () -> {
            LazyRangeTree x = Edges.of(4, 4);
            Due.due("pushDown(1) of an empty mark", x.pushDown(1), false);
            x.add(0, 1, 0);
            Due.due("pushDown(1) of a mark that stayed empty", x.pushDown(1), false);
            x.add(0, 1, 1);
            Due.due("pushDown(1) of an offset 1", x.pushDown(1), true);
            Due.due("pushDown(1) again", x.pushDown(1), false);
            x.add(0, 1, -1);
            Due.due("pushDown(1) of an offset -1", x.pushDown(1), true);
            x.assign(0, 1, 0);
            Due.due("pushDown(1) of a factor 0", x.pushDown(1), true);
            x.negate(0, 1);
            Due.due("pushDown(1) of a factor -1", x.pushDown(1), true);
            x.negate(0, 1);
            x.negate(0, 1);
            Due.due("pushDown(1) of marks that made none", x.pushDown(1), false);
            Due.due("pushCount()", x.pushCount(), 4);
        });
        Edges.of(8, "`node`: the number of a node", () -> pushableNodes(false));
        Edges.of(8, "Throws `IllegalStateException` if the node is a leaf", () -> pushableNodes(true));
        Edges.of(8, "Throws `IndexOutOfBoundsException` if there is no node with this number", () ->
                NodeEdgesTest.dueNoNodes("pushDown", LazyRangeTree::pushDown));
        Edges.of(Edges.TERMS, "A call that throws an exception changes nothing.", () -> {
            LazyRangeTree x = Due.made("sequence 1 2 3;negate 0 2;");
            String before = Due.state(x);
            Due.dueState("pushDown(3)", () -> x.pushDown(3));
            Due.dueIndex("pushDown(6)", () -> x.pushDown(6));
            Due.due("all behind a refused pushDown()", Due.state(x), before);
            Due.due("undoCount()", x.undoCount(), 1);
        });
    }

    /** The leaves are refused, and no other node is. */
    private static void pushableNodes(boolean leaves) {
        for (int n : new int[] {1, 2, 3, 5, 39, 40}) {
            LazyRangeTree x = Edges.ofCount(n);
            int[][] nodes = Edges.nodes(n);
            for (int node = 1; node < nodes.length; node++) {
                int number = node;
                if (nodes[node] != null && leaves && nodes[node][0] == nodes[node][1]) {
                    Due.dueState("pushDown(" + node + ") of " + n, () -> x.pushDown(number));
                } else if (nodes[node] != null && nodes[node][0] != nodes[node][1]) {
                    Due.due("pushDown(" + node + ") of " + n, Due.outcome(() -> x.pushDown(number)), false);
                }
            }
            Due.due("elementCount()", x.elementCount(), n);
        }
    }

    private static void pushingAll() {
        String words = "Pushes down the marks of all nodes that are not leaves, in the order of their numbers; "
                + "a mark that comes to a node by this is pushed down when its turn comes.";
        Edges.of(9, words, () -> {
            for (int n : new int[] {1, 2, 3, 39, 40}) {
                LazyRangeTree x = Edges.ofCount(n);
                x.assign(0, n - 1, 6);
                Due.due("pushAll() of one mark over " + n, x.pushAll(), n - 1);
                Due.due("markedNodes()", x.markedNodes(), 0);
                Due.due("storedSum() of the last leaf", x.storedSum(x.leafOf(n - 1)), 6L);
                Due.due("storedSum() of the first leaf", x.storedSum(x.leafOf(0)), 6L);
            }
            LazyRangeTree x = Due.made("sequence 1 2 3 4;add 0 1 5;add 0 3 -5;");
            Due.due("marks", Due.marks(x), "1:1,-5 2:1,5");
            Due.due("pushAll() of a mark that takes another one away", x.pushAll(), 2);
            Due.due("marks", Due.marks(x), "");
            Due.due("storedSum(4)", x.storedSum(4), 1L);
            Due.due("storedSum(6)", x.storedSum(6), -2L);
        });
        Edges.of(9, "Returns the number of pushes.", () -> {
            LazyRangeTree x = Edges.ofCount(4);
            Due.due("pushAll() without a mark", x.pushAll(), 0);
            Due.due("undoCount(), no push is a change too", x.undoCount(), 2);
            x.add(2, 3, 1);
            Due.due("pushAll() of the last mark", x.pushAll(), 1);
            Due.due("pushAll() again", x.pushAll(), 0);
            x.add(0, 1, 1);
            x.add(2, 3, 1);
            Due.due("pushAll() of two marks", x.pushAll(), 2);
            Due.due("pushCount()", x.pushCount(), 3);
            Due.due("pushAll() of one element", Due.made("sequence 1;negate 0 0;").pushAll(), 0);
        });
    }

    private static void appending() {
        values(10, "appendElement", "`value`: -9999 to 9999", "Throws `IllegalArgumentException` if `value` is out of range",
                LazyRangeTree::appendElement);
        Edges.of(10, "Appends an element behind the last one.", () -> {
            LazyRangeTree x = Edges.of(5);
            for (int value : new int[] {-9999, 9999, 0, -1}) {
                x.appendElement(value);
            }
            Due.due("elements", Due.elements(x), "5 -9999 9999 0 -1");
        });
        Edges.of(10, "The tree is built again from all elements as they are.", () -> {
            LazyRangeTree x = Due.made("sequence 1 2 3;add 0 1 5;negate 0 2;");
            x.appendElement(4);
            Due.due("elements", Due.elements(x), "-6 -7 -3 4");
            Due.due("marks", Due.marks(x), "");
            Due.due("storedSum(4)", x.storedSum(4), -6L);
            Due.due("storedSum(2)", x.storedSum(2), -13L);
            Due.due("counters stay", x.updateCount() + " " + x.pushCount() + " " + x.appliedCount(), "2 0 2");
            LazyRangeTree far = Edges.atTheLimits();
            far.appendElement(9999);
            Due.due("elements that no VALUE can be", Due.elements(far), "1000000 -1000000 0 9999");
            Due.due("violations()", far.violations(), 0);
        });
        Edges.of(10, "Returns the number of elements.", () -> {
            LazyRangeTree x = Edges.of(1);
            for (int n = 2; n <= 40; n++) {
                Due.due("appendElement()", x.appendElement(n), n);
                Due.due("element(" + (n - 1) + ")", x.element(n - 1), n);
            }
        });
    }

    private static void appendingAtTheLimits() {
        Edges.of(10, "Throws `IllegalStateException` if there are 40 elements", () -> {
            LazyRangeTree x = Edges.ofCount(38);
            Due.due("appendElement() at 38", Due.outcome(() -> x.appendElement(7)), 39);
            Due.due("appendElement() at 39", Due.outcome(() -> x.appendElement(7)), 40);
            Due.dueState("appendElement() at 40", () -> x.appendElement(7));
            Due.dueState("appendElement() at 40 once more", () -> x.appendElement(0));
            Due.due("undoCount()", x.undoCount(), 3);
            Due.due("elementCount()", x.elementCount(), 40);
            x.removeLast();
            Due.due("appendElement() at 39 again", Due.outcome(() -> x.appendElement(7)), 40);
        });
        Edges.of(Edges.TERMS, "If several exceptions apply to a call, the one that is listed first is thrown.", () -> {
            LazyRangeTree x = Edges.ofCount(40);
            Due.dueArgument("appendElement(10000) at 40", () -> x.appendElement(10000));
            Due.dueArgument("appendElement(-10000) at 40", () -> x.appendElement(-10000));
            Due.dueState("appendElement(9999) at 40", () -> x.appendElement(9999));
        });
    }

    private static void removing() {
        Edges.of(11, "Removes the last element.", () -> {
            LazyRangeTree x = Edges.ofCount(40);
            for (int n = 39; n >= 1; n--) {
                Due.due("removeLast()", x.removeLast(), n + 1);
                Due.due("elementCount()", x.elementCount(), n);
                Due.due("element(n - 1)", x.element(n - 1), n);
            }
        });
        Edges.of(11, "The tree is built again from the other elements as they are.", () -> {
            LazyRangeTree x = Due.made("sequence 1 2 3 4;add 0 1 5;negate 0 3;");
            x.removeLast();
            Due.due("elements", Due.elements(x), "-6 -7 -3");
            Due.due("marks", Due.marks(x), "");
            Due.due("storedSum(4)", x.storedSum(4), -6L);
            Due.due("storedSum(2)", x.storedSum(2), -13L);
            Due.due("counters stay", x.updateCount() + " " + x.pushCount() + " " + x.appliedCount(), "2 0 2");
            LazyRangeTree far = Edges.atTheLimits();
            far.removeLast();
            Due.due("elements that no VALUE can be", Due.elements(far), "1000000 -1000000");
        });
        Edges.of(11, "Returns the removed element.", () -> {
            LazyRangeTree x = Due.made("sequence 1 2 3;add 2 2 7;negate 0 2;");
            Due.due("removeLast() under a mark", x.removeLast(), -10);
            Due.due("removeLast()", x.removeLast(), -2);
            LazyRangeTree far = Edges.atTheLimits();
            far.removeLast();
            Due.due("removeLast() at the lower limit", far.removeLast(), -1000000);
        });
        Edges.of(11, "Throws `IllegalStateException` if there is only one element", () -> {
            LazyRangeTree x = Edges.of(8, 9, 10);
            Due.due("removeLast() at 3", Due.outcome(x::removeLast), 10);
            Due.due("removeLast() at 2", Due.outcome(x::removeLast), 9);
            Due.dueState("removeLast() at 1", x::removeLast);
            Due.due("elements", Due.elements(x), "8");
            Due.due("undoCount()", x.undoCount(), 3);
            Due.dueState("removeLast() of a sequence of one", Edges.of(3)::removeLast);
        });
    }
}
