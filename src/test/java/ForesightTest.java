/** Promises 53 to 59: what an update would do. */
public final class ForesightTest {
    public static void main(String[] args) {
        promises53To55();
        promise56();
        promise57();
        promise58();
        promise59();
        questionsChangeNothing();
        Due.close();
    }

    private static void promises53To55() {
        LazyRangeTree x = new LazyRangeTree();
        Due.due("appliedFor(0, 9)", x.appliedFor(0, 9), 1);
        Due.due("appliedFor(1, 6)", x.appliedFor(1, 6), 4);
        Due.due("appliedFor(3, 3)", x.appliedFor(3, 3), 1);
        Due.due("appliedFor(0, 8)", x.appliedFor(0, 8), 3);
        Due.due("appliedFor(1, 8)", x.appliedFor(1, 8), 5);
        int[] nodes = {17, 9, 5, 6, 14};
        for (int i = 0; i < 5; i++) {
            Due.due("appliedNode(1, 8, " + i + ")", x.appliedNode(1, 8, i), nodes[i]);
        }
        Due.due("appliedNode(1, 8, 5)", x.appliedNode(1, 8, 5), -1);
        Due.due("appliedNode(1, 8, -1)", x.appliedNode(1, 8, -1), -1);
        Due.due("appliedNode(1, 8, highest)", x.appliedNode(1, 8, Integer.MAX_VALUE), -1);
        Due.due("appliedNode(1, 8, lowest)", x.appliedNode(1, 8, Integer.MIN_VALUE), -1);
        Due.due("appliedNode(0, 9, 0)", x.appliedNode(0, 9, 0), 1);
        Due.due("appliedNode(0, 9, 1)", x.appliedNode(0, 9, 1), -1);
        Due.due("appliedNode(7, 7, 0)", x.appliedNode(7, 7, 0), 13);
        Due.due("visitedFor(0, 9)", x.visitedFor(0, 9), 1);
        Due.due("visitedFor(0, 4)", x.visitedFor(0, 4), 2);
        Due.due("visitedFor(1, 6)", x.visitedFor(1, 6), 10);
        Due.due("visitedFor(0, 0)", x.visitedFor(0, 0), 5);
        Due.due("visitedFor(9, 9)", x.visitedFor(9, 9), 4);
        Due.dueRangeChecks("appliedFor", 10, (from, to) -> x.appliedFor(from, to));
        Due.dueRangeChecks("appliedNode", 10, (from, to) -> x.appliedNode(from, to, 0));
        Due.dueRangeChecks("appliedNode(-1)", 10, (from, to) -> x.appliedNode(from, to, -1));
        Due.dueRangeChecks("visitedFor", 10, (from, to) -> x.visitedFor(from, to));
        LazyRangeTree one = Due.made("sequence 1;");
        Due.due("appliedFor(0, 0)", one.appliedFor(0, 0), 1);
        Due.due("appliedNode(0, 0, 0)", one.appliedNode(0, 0, 0), 1);
        Due.due("visitedFor(0, 0)", one.visitedFor(0, 0), 1);
    }

    private static void promise56() {
        LazyRangeTree x = Due.made("sequence 1 2 3 4 5 6 7 8;");
        Due.due("pushesFor(0, 0)", x.pushesFor(0, 0), 0);
        x.add(0, 7, 3);
        Due.due("pushesFor(0, 7)", x.pushesFor(0, 7), 0);
        Due.due("pushesFor(0, 3)", x.pushesFor(0, 3), 1);
        Due.due("pushesFor(0, 0)", x.pushesFor(0, 0), 3);
        Due.due("pushesFor(1, 6)", x.pushesFor(1, 6), 5);
        x.pushDown(1);
        Due.due("pushesFor(1, 6)", x.pushesFor(1, 6), 4);
        x.add(4, 7, -3);
        Due.due("pushesFor(1, 6)", x.pushesFor(1, 6), 2);
        x.negate(0, 3);
        x.negate(0, 7);
        Due.due("pushesFor(0, 0)", x.pushesFor(0, 0), 3);
        x.add(0, 7, -3);
        Due.due("a mark and one from above that make none", x.pushesFor(0, 0), 1);
        Due.dueRangeChecks("pushesFor", 8, (from, to) -> x.pushesFor(from, to));
        int pushes = x.pushCount();
        int due = x.pushesFor(2, 5);
        x.assign(2, 5, 1);
        Due.due("pushCount() behind pushesFor()", x.pushCount(), pushes + due);
    }

    private static LazyRangeTree nearTheLimit() {
        return Due.made("sequence 9999 9999 0;repeat 11(repeat 9(add 0 1 9999;););add 0 1 99;negate 1 1;");
    }

    private static void promise57() {
        LazyRangeTree x = nearTheLimit();
        Due.due("elements", Due.elements(x), "999999 -999999 0");
        Due.due("canAdd(0, 2, 1)", x.canAdd(0, 2, 1), true);
        Due.due("canAdd(0, 2, 2)", x.canAdd(0, 2, 2), false);
        Due.due("canAdd(0, 2, -1)", x.canAdd(0, 2, -1), true);
        Due.due("canAdd(0, 2, -2)", x.canAdd(0, 2, -2), false);
        Due.due("canAdd(0, 0, -9999)", x.canAdd(0, 0, -9999), true);
        Due.due("canAdd(1, 2, 9999)", x.canAdd(1, 2, 9999), true);
        Due.dueRangeChecks("canAdd", 3, (from, to) -> x.canAdd(from, to, 1));
        Due.dueRangeChecks("canAdd of a wrong amount", 3, (from, to) -> x.canAdd(from, to, 10000));
        Due.dueArgument("canAdd(0, 0, 10000)", () -> x.canAdd(0, 0, 10000));
        Due.dueArgument("canAdd(2, 2, -10000)", () -> x.canAdd(2, 2, -10000));
        Due.dueArgument("canAdd(2, 2, lowest)", () -> x.canAdd(2, 2, Integer.MIN_VALUE));
    }

    private static void promise58() {
        LazyRangeTree x = nearTheLimit();
        Due.due("greatestAddition(0, 2)", x.greatestAddition(0, 2), 1);
        Due.due("greatestAddition(1, 2)", x.greatestAddition(1, 2), 9999);
        Due.due("greatestAddition(1, 1)", x.greatestAddition(1, 1), 9999);
        x.add(0, 0, -9998);
        Due.due("greatestAddition(0, 0)", x.greatestAddition(0, 0), 9999);
        x.add(0, 0, 1);
        Due.due("greatestAddition(0, 0)", x.greatestAddition(0, 0), 9998);
        x.add(0, 0, 9998);
        Due.due("greatestAddition(0, 0)", x.greatestAddition(0, 0), 0);
        Due.dueRangeChecks("greatestAddition", 3, (from, to) -> x.greatestAddition(from, to));
    }

    private static void promise59() {
        LazyRangeTree x = Due.made("sequence 1 2 3 4;negate 0 1;");
        Due.due("totalIfAssigned(1, 2, 10)", x.totalIfAssigned(1, 2, 10), 23L);
        Due.due("totalIfAssigned(0, 3, -9999)", x.totalIfAssigned(0, 3, -9999), -39996L);
        Due.due("totalIfAssigned(3, 3, 9999)", x.totalIfAssigned(3, 3, 9999), 9999L);
        Due.due("totalIfAssigned(0, 0, 0)", x.totalIfAssigned(0, 0, 0), 5L);
        Due.dueRangeChecks("totalIfAssigned", 4, (from, to) -> x.totalIfAssigned(from, to, 1));
        Due.dueRangeChecks("totalIfAssigned of a wrong value", 4, (from, to) -> x.totalIfAssigned(from, to, -10000));
        Due.dueArgument("totalIfAssigned(0, 0, 10000)", () -> x.totalIfAssigned(0, 0, 10000));
        Due.dueArgument("totalIfAssigned(0, 0, -10000)", () -> x.totalIfAssigned(0, 0, -10000));
    }

    private static void questionsChangeNothing() {
        LazyRangeTree x = new LazyRangeTree();
        x.appliedFor(1, 6);
        x.appliedNode(1, 6, 2);
        x.visitedFor(1, 6);
        x.pushesFor(1, 6);
        x.canAdd(1, 6, 5);
        x.greatestAddition(1, 6);
        x.totalIfAssigned(1, 6, 5);
        Due.due("markedNodes()", x.markedNodes(), 4);
        Due.due("pushCount()", x.pushCount(), 0);
        Due.due("updateCount()", x.updateCount(), 4);
        Due.due("appliedCount()", x.appliedCount(), 7);
        Due.due("undoCount()", x.undoCount(), 0);
        Due.due("elements", Due.elements(x), "-4 1 -8 -7 -7 6 2 5 10 -5");
    }
}
