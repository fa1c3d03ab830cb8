/** Promises 12 to 15. */
public final class UndoTest {
    public static void main(String[] args) {
        promise12();
        promise12EveryChange();
        promise12RestoresMarksAndCounters();
        promise12LeavesTheRest();
        promise13();
        promise14();
        promise15();
        Due.close();
    }

    private static void promise12() {
        LazyRangeTree x = new LazyRangeTree();
        Due.due("undo()", x.undo(), -1);
        for (int i = 1; i <= 12; i++) {
            x.assign(0, 0, i);
        }
        Due.due("undoCount()", x.undoCount(), 8);
        for (int i = 11; i >= 4; i--) {
            Due.due("undo()", x.undo(), i - 4);
            Due.due("element(0)", x.element(0), i);
        }
        Due.due("undo()", x.undo(), -1);
        Due.due("element(0)", x.element(0), 4);
        x.assign(0, 0, 20);
        x.assign(0, 0, 21);
        Due.due("undo()", x.undo(), 1);
        x.assign(0, 0, 22);
        Due.due("undo()", x.undo(), 1);
        Due.due("element(0)", x.element(0), 20);
        Due.due("undo()", x.undo(), 0);
        Due.due("element(0)", x.element(0), 4);
    }

    private interface Change {
        Object on(LazyRangeTree x);
    }

    private static void promise12EveryChange() {
        Change[] changes = {x -> Due.run(x, "sequence 4 5 6;negate 0 1;"), x -> x.assign(0, 1, 3), x -> x.add(1, 2, 4),
            x -> x.negate(0, 1), x -> x.pushDown(1), x -> x.pushDown(1), LazyRangeTree::pushAll, LazyRangeTree::pushAll,
            x -> x.appendElement(4), LazyRangeTree::removeLast};
        for (int last = 0; last < changes.length; last++) {
            LazyRangeTree x = new LazyRangeTree();
            for (int i = 0; i < last; i++) {
                changes[i].on(x);
            }
            String before = Due.state(x);
            changes[last].on(x);
            Due.due("undoCount()", x.undoCount(), Math.min(last + 1, 8));
            Due.due("undo()", x.undo(), Math.min(last, 7));
            Due.due("all after undo", Due.state(x), before);
        }
    }

    private static void promise12RestoresMarksAndCounters() {
        LazyRangeTree x = new LazyRangeTree();
        x.negate(3, 3);
        Due.due("pushCount()", x.pushCount(), 3);
        Due.due("updateCount()", x.updateCount(), 5);
        Due.due("appliedCount()", x.appliedCount(), 8);
        x.undo();
        Due.due("pushCount()", x.pushCount(), 0);
        Due.due("updateCount()", x.updateCount(), 4);
        Due.due("appliedCount()", x.appliedCount(), 7);
        Due.due("markedNodes()", x.markedNodes(), 4);
    }

    private static void promise12LeavesTheRest() {
        LazyRangeTree x = new LazyRangeTree();
        x.negate(0, 0);
        x.saveSnapshot();
        x.negate(1, 1);
        x.writeRange(0, 1);
        Due.run(x, "sequence x");
        Due.type(x, "sequence 8;");
        Due.due("undo()", x.undo(), 1);
        Due.due("undo()", x.undo(), 0);
        Due.due("report", Due.report(x), "4,-1");
        Due.due("scriptErrorKind()", x.scriptErrorKind(), 1);
        Due.due("scriptErrorOffset()", x.scriptErrorOffset(), 9);
        Due.due("runScript()", x.runScript(), 1);
        Due.due("element(0)", x.element(0), 8);
        Due.due("restoreSnapshot()", x.restoreSnapshot(), 10);
        Due.due("element(0)", x.element(0), 4);
        Due.due("element(1)", x.element(1), 1);
    }

    private static void promise13() {
        LazyRangeTree x = new LazyRangeTree();
        Due.due("undoCount()", x.undoCount(), 0);
        for (int i = 1; i <= 10; i++) {
            x.pushAll();
            Due.due("undoCount()", x.undoCount(), Math.min(i, 8));
        }
        x.undo();
        Due.due("undoCount()", x.undoCount(), 7);
        Due.run(x, "sequence 1;junk");
        Due.due("undoCount() behind an error", x.undoCount(), 7);
        Due.run(x, "sequence 1;");
        Due.due("undoCount() behind a script", x.undoCount(), 8);
        x.saveSnapshot();
        x.writeRange(0, 0);
        x.append(0, 0, 0, 0, 0);
        x.truncateInput(0);
        Due.due("undoCount() counts changes only", x.undoCount(), 8);
    }

    private static void promise14() {
        LazyRangeTree x = Due.made("sequence 1 2 3 4 5 6;add 0 3 2;");
        String first = Due.state(x);
        Due.due("saveSnapshot()", x.saveSnapshot(), 6);
        Due.due("a snapshot is no change", x.undoCount(), 1);
        x.negate(1, 4);
        x.removeLast();
        String second = Due.state(x);
        Due.due("restoreSnapshot()", x.restoreSnapshot(), 6);
        Due.due("all", Due.state(x), first);
        x.negate(1, 4);
        x.removeLast();
        Due.due("saveSnapshot()", x.saveSnapshot(), 5);
        Due.due("all is as it was", Due.state(x), second);
        Due.due("undoCount()", x.undoCount(), 2);
        Due.run(x, "sequence 1;");
        Due.due("restoreSnapshot()", x.restoreSnapshot(), 5);
        Due.due("all of the later snapshot", Due.state(x), second);
    }

    private static void promise15() {
        LazyRangeTree x = Due.made("sequence 4 5 6 7;add 0 1 2;");
        x.negate(0, 3);
        Due.dueNoSuch("restoreSnapshot()", () -> x.restoreSnapshot());
        Due.due("undoCount()", x.undoCount(), 2);
        x.saveSnapshot();
        String saved = Due.state(x);
        x.assign(0, 3, 4);
        Due.due("restoreSnapshot()", x.restoreSnapshot(), 4);
        Due.due("all", Due.state(x), saved);
        Due.due("undoCount()", x.undoCount(), 0);
        Due.due("undo()", x.undo(), -1);
        x.assign(0, 3, 5);
        Due.due("undoCount()", x.undoCount(), 1);
        Due.due("restoreSnapshot() again", x.restoreSnapshot(), 4);
        Due.due("all", Due.state(x), saved);
        x.writeRange(0, 0);
        x.append(1, 2, 3, 4, 5);
        x.restoreSnapshot();
        Due.due("report", Due.report(x), "-6");
        Due.due("truncateInput(20)", x.truncateInput(20), 20);
    }
}
