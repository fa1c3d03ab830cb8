/** Promises 53 to 59, sentence by sentence at their boundaries. */
public final class ForesightEdgesTest {
    public static void main(String[] args) {
        all();
        Due.close();
    }

    static void all() {
        appliedFor();
        appliedNode();
        visitedFor();
        pushesFor();
        canAdd();
        canAddWhereverTheElementStands();
        greatestAddition();
        totalIfAssigned();
    }

    private static void appliedFor() {
        RangeEdges.of(53, "appliedFor", LazyRangeTree::appliedFor, (v, from, to) -> Edges.applied(v.length, from, to).size());
        Edges.of(53, "Returns the number of nodes.", () -> {
            Due.due("appliedFor(0, 0) of one element", Edges.of(5).appliedFor(0, 0), 1);
            LazyRangeTree x = Edges.ofCount(40);
            Due.due("appliedFor(0, 39)", x.appliedFor(0, 39), 1);
            for (int from = 0; from < 40; from += from < 3 || from > 35 ? 1 : 5) {
                for (int to = from; to < 40; to += to < from + 3 || to > 35 ? 1 : 5) {
                    Due.due("appliedFor(" + from + ", " + to + ") of 40", x.appliedFor(from, to), Edges.applied(40, from, to).size());
                }
            }
        });
        Edges.of(53, "Returns to how many nodes the mark of an update would be applied.", () -> {
            LazyRangeTree x = Edges.ofCount(7);
            for (int from = 0; from < 7; from++) {
                for (int to = from; to < 7; to++) {
                    int due = x.appliedFor(from, to);
                    int counted = x.appliedCount();
                    Due.due("negate(" + from + ", " + to + ") behind appliedFor()", x.negate(from, to), due);
                    Due.due("appliedCount()", x.appliedCount(), counted + due);
                }
            }
        });
    }

    private static void appliedNode() {
        RangeEdges.of(54, "appliedNode(.., 0)", (x, from, to) -> x.appliedNode(from, to, 0),
                (v, from, to) -> Edges.applied(v.length, from, to).get(0));
        RangeEdges.of(54, "appliedNode(.., -1)", (x, from, to) -> x.appliedNode(from, to, -1), (v, from, to) -> -1);
        Edges.of(54, "`position`: the position of the node among these nodes, from 0, in the order of their indexes", () -> {
            for (int n : new int[] {1, 2, 7, 10}) {
                for (int from = 0; from < n; from++) {
                    LazyRangeTree x = Edges.ofCount(n);
                    for (int to = from; to < n; to++) {
                        for (int position = 0; position < Edges.applied(n, from, to).size(); position++) {
                            Due.due("appliedNode(" + from + ", " + to + ", " + position + ") of " + n,
                                    x.appliedNode(from, to, position), Edges.applied(n, from, to).get(position));
                        }
                    }
                }
            }
            LazyRangeTree x = Edges.ofCount(40);
            for (int position = 0; position < Edges.applied(40, 1, 38).size(); position++) {
                Due.due("appliedNode(1, 38, " + position + ") of 40", x.appliedNode(1, 38, position),
                        Edges.applied(40, 1, 38).get(position));
            }
        });
        Edges.of(54, "Returns the number of the node, or NONE if there are not so many.", () -> {
            LazyRangeTree x = Edges.ofCount(10);
            Due.due("appliedNode(1, 8, 4), the last one", x.appliedNode(1, 8, 4), 14);
            Due.due("appliedNode(1, 8, 5)", x.appliedNode(1, 8, 5), -1);
            Due.due("appliedNode(1, 8, 6)", x.appliedNode(1, 8, 6), -1);
            Due.due("appliedNode(0, 9, 0), the root", x.appliedNode(0, 9, 0), 1);
            Due.due("appliedNode(0, 9, 1)", x.appliedNode(0, 9, 1), -1);
            Due.due("appliedNode(9, 9, 0), a leaf", x.appliedNode(9, 9, 0), 15);
            Due.due("appliedNode(9, 9, 1)", x.appliedNode(9, 9, 1), -1);
            Due.due("appliedNode(1, 8, -1)", x.appliedNode(1, 8, -1), -1);
            Due.due("appliedNode(1, 8, lowest)", x.appliedNode(1, 8, Integer.MIN_VALUE), -1);
            Due.due("appliedNode(1, 8, highest)", x.appliedNode(1, 8, Integer.MAX_VALUE), -1);
            LazyRangeTree one = Edges.of(4);
            Due.due("appliedNode(0, 0, 0) of one element", one.appliedNode(0, 0, 0), 1);
            Due.due("appliedNode(0, 0, 1) of one element", one.appliedNode(0, 0, 1), -1);
        });
    }

    private static void visitedFor() {
        RangeEdges.of(55, "visitedFor", LazyRangeTree::visitedFor, (v, from, to) -> Edges.visited(v.length, from, to).size());
        Edges.of(55, "Returns the number of nodes at which the update would arrive, with those to which its mark would be applied.", () -> {
            Due.due("visitedFor(0, 0) of one element", Edges.of(5).visitedFor(0, 0), 1);
            LazyRangeTree two = Edges.of(5, 6);
            Due.due("visitedFor(0, 1) of two", two.visitedFor(0, 1), 1);
            Due.due("visitedFor(0, 0) of two", two.visitedFor(0, 0), 2);
            Due.due("visitedFor(1, 1) of two", two.visitedFor(1, 1), 2);
            LazyRangeTree x = Edges.ofCount(40);
            Due.due("visitedFor(0, 39)", x.visitedFor(0, 39), 1);
            Due.due("visitedFor(0, 0), a leaf of the last level", x.visitedFor(0, 0), 7);
            Due.due("visitedFor(39, 39)", x.visitedFor(39, 39), 6);
            for (int from = 0; from < 40; from += from < 3 || from > 35 ? 1 : 5) {
                for (int to = from; to < 40; to += to < from + 3 || to > 35 ? 1 : 5) {
                    Due.due("visitedFor(" + from + ", " + to + ") of 40", x.visitedFor(from, to), Edges.visited(40, from, to).size());
                }
            }
        });
    }

    // ---- pushes

    private static final String[] MARKED = {"", "add 0 6 1;", "negate 0 3;", "add 4 6 2;add 0 6 -2;", "assign 0 1 4;negate 0 3;assign 0 6 0;",
        "add 0 1 1;add 0 3 1;add 0 6 1;", "add 0 1 1;add 0 3 1;add 0 6 -1;", "negate 2 3;negate 0 6;", "add 4 5 0;"};

    private static void pushesFor() {
        RangeEdges.of(56, "pushesFor", (x, from, to) -> x.pushesFor(from, to) >= 0, (v, from, to) -> true);
        Edges.of(56, "Returns how many pushes an update would make.", () -> {
            for (String marked : MARKED) {
                for (int from = 0; from < 7; from++) {
                    for (int to = from; to < 7; to++) {
                        LazyRangeTree x = Due.made("sequence 1 2 3 4 5 6 7;" + marked);
                        int due = x.pushesFor(from, to);
                        int pushed = x.pushCount();
                        x.add(from, to, 1);
                        Due.due("pushesFor(" + from + ", " + to + ") behind " + marked, due, x.pushCount() - pushed);
                    }
                }
            }
        });
        Edges.of(56, "Returns the number of pushes of marks that are not empty, also of marks that come to a node by a push on the way.", () -> {
            LazyRangeTree x = Edges.ofCount(8);
            Due.due("pushesFor(0, 0), no mark", x.pushesFor(0, 0), 0);
            x.add(0, 7, 1);
            Due.due("pushesFor(0, 0), the root's mark comes down", x.pushesFor(0, 0), 3);
            Due.due("pushesFor(0, 1)", x.pushesFor(0, 1), 2);
            Due.due("pushesFor(0, 3)", x.pushesFor(0, 3), 1);
            Due.due("pushesFor(0, 7), the root takes the mark itself", x.pushesFor(0, 7), 0);
            Due.due("pushesFor(3, 4), both ways down", x.pushesFor(3, 4), 5);
            x.pushDown(1);
            Due.due("pushesFor(0, 0) behind pushDown(1)", x.pushesFor(0, 0), 2);
            Due.due("pushesFor(0, 3) behind pushDown(1)", x.pushesFor(0, 3), 0);
            LazyRangeTree y = Due.made("sequence 1 2 3 4;add 0 1 3;add 0 3 -3;");
            Due.due("pushesFor(0, 0), a mark from above takes another one away", y.pushesFor(0, 0), 1);
            Due.due("pushesFor(2, 2), it comes where there is none", y.pushesFor(2, 2), 2);
            LazyRangeTree z = Due.made("sequence 1 2 3 4;add 0 1 3;");
            Due.due("pushesFor(0, 0), the root's mark is empty", z.pushesFor(0, 0), 1);
            Due.due("pushesFor(2, 2), a mark beside the way", z.pushesFor(2, 2), 0);
            Due.due("pushesFor(0, 1), the node takes the mark itself", z.pushesFor(0, 1), 0);
            Due.due("pushesFor(0, 0) of one element", Due.made("sequence 1;negate 0 0;").pushesFor(0, 0), 0);
        });
    }

    // ---- adding and assigning

    private static void canAdd() {
        RangeEdges.of(57, "canAdd", (x, from, to) -> x.canAdd(from, to, 9999), (v, from, to) -> true);
        Edges.of(57, "`amount`: -9999 to 9999", () -> {
            LazyRangeTree x = Edges.of(3, 3);
            for (int amount : new int[] {-9999, -9998, -1, 0, 1, 9998, 9999}) {
                Due.due("canAdd(0, 1, " + amount + ")", Due.outcome(() -> x.canAdd(0, 1, amount)), true);
            }
        });
        Edges.of(57, "or `amount` is out of range", () -> {
            LazyRangeTree x = Edges.atTheLimits();
            for (int amount : new int[] {-10000, 10000, -10001, 10001, Integer.MIN_VALUE, Integer.MAX_VALUE}) {
                Due.dueArgument("canAdd(0, 1, " + amount + ")", () -> x.canAdd(0, 1, amount));
                Due.dueIndex("canAdd(0, 3, " + amount + ")", () -> x.canAdd(0, 3, amount));
                Due.dueIndex("canAdd(-1, 0, " + amount + ")", () -> x.canAdd(-1, 0, amount));
                Due.dueArgument("canAdd(1, 0, " + amount + ")", () -> x.canAdd(1, 0, amount));
            }
        });
        Edges.of(57, "Returns whether add() would not be refused.", () -> {
            LazyRangeTree x = Edges.atTheLimits();
            x.add(0, 0, -3);
            x.add(1, 1, 3);
            for (int amount : new int[] {-9999, -5, -4, -3, -2, -1, 0, 1, 2, 3, 4, 5, 9999}) {
                Due.due("canAdd(0, 0, " + amount + ") to 999997", x.canAdd(0, 0, amount), amount <= 3);
                Due.due("canAdd(1, 1, " + amount + ") to -999997", x.canAdd(1, 1, amount), amount >= -3);
                Due.due("canAdd(2, 2, " + amount + ") to 0", x.canAdd(2, 2, amount), true);
                Due.due("canAdd(0, 2, " + amount + ") to all", x.canAdd(0, 2, amount), amount >= -3 && amount <= 3);
                Due.due("canAdd(1, 2, " + amount + "), the greatest one left out", x.canAdd(1, 2, amount), amount >= -3);
                boolean refused = Due.outcome(() -> x.add(0, 2, amount)).toString().startsWith("throws");
                Due.due("add(0, 2, " + amount + ") is refused", refused, amount < -3 || amount > 3);
                if (!refused) {
                    x.undo();
                }
            }
        });
    }

    private static void canAddWhereverTheElementStands() {
        Edges.of(57, "Tells whether an amount can be added to a range.", () -> {
            for (int sign = -1; sign <= 1; sign += 2) {
                for (int place = 0; place < 5; place++) {
                    LazyRangeTree x = oneAtTheLimit(place, sign);
                    for (int from = 0; from < 5; from++) {
                        for (int to = from; to < 5; to++) {
                            boolean inside = from <= place && place <= to;
                            String name = "canAdd(" + from + ", " + to + ", .), at the limit is " + place;
                            Due.due(name, x.canAdd(from, to, sign), !inside);
                            Due.due(name, x.canAdd(from, to, -sign), true);
                            Due.due(name, x.canAdd(from, to, 0), true);
                        }
                    }
                }
            }
        });
        Edges.of(Edges.TERMS, "An update by adding is refused if an element would become less than -1000000 or greater than 1000000.", () -> {
            for (int sign = -1; sign <= 1; sign += 2) {
                for (int place = 0; place < 5; place++) {
                    LazyRangeTree x = oneAtTheLimit(place, sign);
                    for (int from = 0; from < 5; from++) {
                        for (int to = from; to < 5; to++) {
                            dueAdd(x, from, to, sign, from <= place && place <= to);
                        }
                    }
                }
            }
        });
    }

    private static void dueAdd(LazyRangeTree x, int from, int to, int amount, boolean refused) {
        Object got = Due.outcome(() -> x.add(from, to, amount));
        Due.due("add(" + from + ", " + to + ", " + amount + ") to " + Due.elements(x), got,
                refused ? "throws IllegalStateException" : Edges.applied(5, from, to).size());
        if (got instanceof Integer) {
            x.undo();
        }
    }

    /** Five elements, of which the one at the place is 1000000 or -1000000. */
    private static LazyRangeTree oneAtTheLimit(int place, int sign) {
        int[] values = {5, 5, 5, 5, 5};
        values[place] = sign * 9999;
        String range = place + " " + place + " ";
        return Due.made(Edges.script(values) + "repeat 9(repeat 11(add " + range + sign * 9999 + ";););add " + range + sign * 100 + ";");
    }

    private static void greatestAddition() {
        RangeEdges.of(58, "greatestAddition", LazyRangeTree::greatestAddition, (v, from, to) -> 9999);
        Edges.of(58, "Returns the amount, 9999 at most.", () -> {
            LazyRangeTree x = Edges.atTheLimits();
            Due.due("greatestAddition(0, 0) at the limit", x.greatestAddition(0, 0), 0);
            Due.due("greatestAddition(0, 2) with one at the limit", x.greatestAddition(0, 2), 0);
            Due.due("greatestAddition(1, 1) at the lower limit", x.greatestAddition(1, 1), 9999);
            Due.due("greatestAddition(1, 2)", x.greatestAddition(1, 2), 9999);
            int below = 0;
            for (int amount : new int[] {-1, -1, -9995, -1, -1, -1, -1}) {
                x.add(0, 0, amount);
                below -= amount;
                Due.due("greatestAddition(0, 0) at " + below + " below the limit", x.greatestAddition(0, 0), Math.min(below, 9999));
                Due.due("greatestAddition(0, 1) at " + below + " below the limit", x.greatestAddition(0, 1), Math.min(below, 9999));
            }
        });
        Edges.of(58, "Returns the greatest amount that can be added to a range.", () -> {
            LazyRangeTree y = Edges.atTheLimits();
            y.add(0, 0, -2);
            y.negate(1, 1);
            y.add(1, 1, -1);
            Due.due("greatestAddition(0, 2), the greatest one in the middle", y.greatestAddition(0, 2), 1);
            Due.due("greatestAddition(0, 1), the greatest one at the end", y.greatestAddition(0, 1), 1);
            Due.due("greatestAddition(0, 0), the greatest one behind the range", y.greatestAddition(0, 0), 2);
            Due.due("greatestAddition(2, 2), the greatest one before the range", y.greatestAddition(2, 2), 9999);
            LazyRangeTree x = Edges.atTheLimits();
            x.add(0, 0, -37);
            int amount = x.greatestAddition(0, 1);
            Due.due("greatestAddition(0, 1)", amount, 37);
            Due.due("canAdd() of it", x.canAdd(0, 1, amount), true);
            Due.due("canAdd() of one more", x.canAdd(0, 1, amount + 1), false);
            Due.dueState("add() of one more", () -> x.add(0, 1, amount + 1));
            Due.due("add() of it", Due.outcome(() -> x.add(0, 1, amount)), 1);
        });
    }

    private static void totalIfAssigned() {
        RangeEdges.of(59, "totalIfAssigned", (x, from, to) -> x.totalIfAssigned(from, to, -8),
                (v, from, to) -> RangeEdgesTest.sum(v, 0, v.length - 1) - RangeEdgesTest.sum(v, from, to) - 8L * (to - from + 1));
        Edges.of(59, "`value`: -9999 to 9999", () -> {
            LazyRangeTree x = Edges.of(3, 4);
            for (int value : new int[] {-9999, -9998, -1, 0, 1, 9998, 9999}) {
                Due.due("totalIfAssigned(1, 1, " + value + ")", Due.outcome(() -> x.totalIfAssigned(1, 1, value)), 3L + value);
            }
        });
        Edges.of(59, "or `value` is out of range", () -> {
            LazyRangeTree x = Edges.of(3, 4);
            for (int value : new int[] {-10000, 10000, -10001, 10001, Integer.MIN_VALUE, Integer.MAX_VALUE}) {
                Due.dueArgument("totalIfAssigned(0, 1, " + value + ")", () -> x.totalIfAssigned(0, 1, value));
                Due.dueIndex("totalIfAssigned(0, 2, " + value + ")", () -> x.totalIfAssigned(0, 2, value));
                Due.dueIndex("totalIfAssigned(-1, 0, " + value + ")", () -> x.totalIfAssigned(-1, 0, value));
                Due.dueArgument("totalIfAssigned(1, 0, " + value + ")", () -> x.totalIfAssigned(1, 0, value));
            }
        });
        Edges.of(59, "Returns the sum of all elements then.", () -> {
            LazyRangeTree x = Due.made("sequence 0;repeat 13(append 0;append 0;append 0;);repeat 10(repeat 10(add 0 39 9999;););add 0 39 100;");
            Due.due("totalIfAssigned(39, 39, 0) at the limit", x.totalIfAssigned(39, 39, 0), 39000000L);
            Due.due("totalIfAssigned(0, 39, 9999)", x.totalIfAssigned(0, 39, 9999), 399960L);
            Due.due("totalIfAssigned(0, 39, -9999)", x.totalIfAssigned(0, 39, -9999), -399960L);
            Due.due("sum(0, 39) is not changed", x.sum(0, 39), 40000000L);
            LazyRangeTree one = Edges.of(7);
            Due.due("totalIfAssigned(0, 0, 0) of one element", one.totalIfAssigned(0, 0, 0), 0L);
        });
    }
}
