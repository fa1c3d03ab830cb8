/** Promise 1. */
public final class NewObjectTest {
    public static void main(String[] args) {
        asByTheScript();
        empty();
        Due.close();
    }

    private static void asByTheScript() {
        LazyRangeTree fresh = new LazyRangeTree();
        LazyRangeTree made = Due.made(
                "sequence 5 -2 7 7 0 3 -1 4 9 -6; add 1 6 2; assign 3 4 8; negate 0 4; add 0 9 1;");
        Due.due("elements", Due.elements(fresh), "-4 1 -8 -7 -7 6 2 5 10 -5");
        Due.due("elements of the script", Due.elements(made), Due.elements(fresh));
        Due.due("nodeCount()", fresh.nodeCount(), 19);
        for (int node = 1; node <= 31; node++) {
            int number = node;
            Due.due("storedSum", Due.outcome(() -> fresh.storedSum(number)), Due.outcome(() -> made.storedSum(number)));
            Due.due("storedLeast", Due.outcome(() -> fresh.storedLeast(number)), Due.outcome(() -> made.storedLeast(number)));
            Due.due("storedGreatest", Due.outcome(() -> fresh.storedGreatest(number)), Due.outcome(() -> made.storedGreatest(number)));
            Due.due("markFactor", Due.outcome(() -> fresh.markFactor(number)), Due.outcome(() -> made.markFactor(number)));
            Due.due("markOffset", Due.outcome(() -> fresh.markOffset(number)), Due.outcome(() -> made.markOffset(number)));
        }
        Due.due("updateCount()", fresh.updateCount(), 4);
        Due.due("appliedCount()", fresh.appliedCount(), 7);
        Due.due("pushCount()", fresh.pushCount(), 0);
    }

    private static void empty() {
        LazyRangeTree x = new LazyRangeTree();
        Due.due("NONE", LazyRangeTree.NONE, -1);
        Due.due("undoCount()", x.undoCount(), 0);
        Due.due("undo()", x.undo(), -1);
        Due.dueNoSuch("restoreSnapshot()", () -> x.restoreSnapshot());
        Due.due("reportByte(0)", x.reportByte(0), -1);
        Due.due("scriptErrorKind()", x.scriptErrorKind(), 0);
        Due.due("scriptErrorOffset()", x.scriptErrorOffset(), -1);
        Due.dueArgument("truncateInput(1)", () -> x.truncateInput(1));
        Due.due("append()", x.append(0, 0, 0, 0, 0), 20);
    }
}
