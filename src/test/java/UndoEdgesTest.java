/** Undo in "Terms", and promises 12 to 15, sentence by sentence at their boundaries. */
public final class UndoEdgesTest {
    private interface Change {
        Object on(LazyRangeTree x);
    }

    /** Every method that is a change, also where it changes nothing that can be seen. */
    private static final String[] NAMES = {"runScript", "assign", "assign of what stands there", "add", "add of 0", "negate", "negate of 0",
        "pushDown", "pushDown of an empty mark", "pushAll", "pushAll again", "appendElement", "removeLast"};
    private static final Change[] CHANGES = {x -> Due.run(x, "sequence 4 5;negate 0 1;"), x -> x.assign(1, 2, 3), x -> x.assign(3, 3, 0),
        x -> x.add(0, 2, 4), x -> x.add(0, 3, 0), x -> x.negate(0, 1), x -> x.negate(3, 3),
        x -> x.pushDown(1), x -> x.pushDown(3), LazyRangeTree::pushAll, LazyRangeTree::pushAll,
        x -> x.appendElement(4), LazyRangeTree::removeLast};

    public static void main(String[] args) {
        all();
        Due.close();
    }

    static void all() {
        eachChange();
        callsThatAreNoChange();
        theLatestEight();
        restoresEverything();
        leavesTheRest();
        promise12();
        promise13();
        promise14();
        promise15();
    }

    private static LazyRangeTree four() {
        return Due.made("sequence 1 2 3 0;add 0 1 5;negate 0 3;");
    }

    private static void eachChange() {
        for (int i = 0; i < CHANGES.length; i++) {
            String name = NAMES[i];
            Change change = CHANGES[i];
            Edges.of(Edges.TERMS, "Each call of a change that does not throw an exception, and each successful script, can be undone, "
                    + "the latest one first; the latest 8 are remembered.", () -> {
                LazyRangeTree x = four();
                String before = Due.state(x);
                change.on(x);
                Due.due("undoCount() behind " + name, x.undoCount(), 2);
                Due.due("undo() of " + name, x.undo(), 1);
                Due.due("all behind undo() of " + name, Due.state(x), before);
            });
        }
        Edges.of(Edges.TERMS, "The methods from `runScript` to `removeLast` are changes.", () -> {
            LazyRangeTree x = four();
            int due = 1;
            for (int i = 1; i < CHANGES.length; i++) {
                CHANGES[i].on(x);
                due = Math.min(due + 1, 8);
                Due.due("undoCount() behind " + NAMES[i], x.undoCount(), due);
            }
        });
    }

    private static void callsThatAreNoChange() {
        Edges.of(Edges.TERMS, "The methods from `runScript` to `removeLast` are changes.", () -> {
            LazyRangeTree x = four();
            x.append(0, 0, 0, 0, 0);
            x.truncateInput(3);
            x.saveSnapshot();
            x.element(0);
            x.writeRange(0, 3);
            x.pushesFor(0, 0);
            Due.due("undoCount() behind calls that are no changes", x.undoCount(), 1);
            LazyRangeTree y = four();
            y.runScript();
            Due.due("undoCount() behind a script with an error", y.undoCount(), 1);
        });
        Edges.of(Edges.TERMS, "A call that throws an exception changes nothing.", () -> {
            LazyRangeTree x = Edges.ofCount(1);
            String before = Due.state(x);
            Due.dueIndex("assign(0, 1, 5)", () -> x.assign(0, 1, 5));
            Due.dueArgument("assign(0, 0, 10000)", () -> x.assign(0, 0, 10000));
            Due.dueIndex("add(-1, 0, 5)", () -> x.add(-1, 0, 5));
            Due.dueArgument("add(0, 0, 10000)", () -> x.add(0, 0, 10000));
            Due.dueIndex("negate(1, 1)", () -> x.negate(1, 1));
            Due.dueIndex("pushDown(2)", () -> x.pushDown(2));
            Due.dueState("pushDown(1)", () -> x.pushDown(1));
            Due.dueArgument("appendElement(10000)", () -> x.appendElement(10000));
            Due.dueState("removeLast()", x::removeLast);
            Due.dueNoSuch("restoreSnapshot()", x::restoreSnapshot);
            Due.dueArgument("truncateInput(1)", () -> x.truncateInput(1));
            Due.due("all behind refused calls", Due.state(x), before);
            Due.due("undoCount() behind refused calls", x.undoCount(), 1);
            LazyRangeTree y = Edges.atTheLimits();
            Due.dueState("add(0, 0, 1)", () -> y.add(0, 0, 1));
            Due.due("undoCount() behind a refused add()", y.undoCount(), 1);
            LazyRangeTree z = Edges.ofCount(40);
            Due.dueState("appendElement(1)", () -> z.appendElement(1));
            Due.due("undoCount() behind a refused appendElement()", z.undoCount(), 1);
        });
    }

    /** So many changes on a new object: the element 0 tells how many there were. */
    private static LazyRangeTree changed(int count) {
        LazyRangeTree x = new LazyRangeTree();
        x.assign(0, 0, 0);
        x.saveSnapshot();
        x.restoreSnapshot();
        for (int i = 1; i <= count; i++) {
            x.assign(0, 0, i);
        }
        return x;
    }

    private static void theLatestEight() {
        for (int count : new int[] {0, 1, 7, 8, 9, 10, 16, 17, 40}) {
            Edges.of(Edges.TERMS, "the latest 8 are remembered", () -> {
                LazyRangeTree x = changed(count);
                int remembered = Math.min(count, 8);
                Due.due("undoCount() behind " + count, x.undoCount(), remembered);
                for (int i = 1; i <= remembered; i++) {
                    Due.due("undo()", x.undo(), remembered - i);
                    Due.due("element(0) behind undo()", x.element(0), count - i);
                }
                Due.due("undo() of nothing behind " + count, x.undo(), -1);
                Due.due("element(0) behind undo() of nothing", x.element(0), count - remembered);
            });
        }
        Edges.of(Edges.TERMS, "the latest one first", () -> {
            LazyRangeTree x = changed(8);
            x.undo();
            x.undo();
            x.assign(0, 0, 70);
            Due.due("undoCount() behind undo() and a change", x.undoCount(), 7);
            x.assign(0, 0, 80);
            x.assign(0, 0, 90);
            Due.due("undoCount(), again more than eight", x.undoCount(), 8);
            int[] due = {80, 70, 6, 5, 4, 3, 2, 1};
            for (int i = 0; i < 8; i++) {
                Due.due("undo()", x.undo(), 7 - i);
                Due.due("element(0) behind undo()", x.element(0), due[i]);
            }
            Due.due("undo() of nothing", x.undo(), -1);
        });
    }

    private static void restoresEverything() {
        String words = "Undoing restores everything (also marks and counters) except the input buffer, the script error, the report and the snapshot.";
        Edges.of(Edges.TERMS, words, () -> {
            LazyRangeTree x = new LazyRangeTree();
            String before = Due.state(x);
            x.pushAll();
            Due.due("marks behind pushAll()", Due.marks(x), "");
            x.undo();
            Due.due("all behind undo() of pushAll()", Due.state(x), before);
        });
        Edges.of(Edges.TERMS, "(also marks and counters)", () -> {
            LazyRangeTree x = Due.made("sequence 1 2 3;add 0 1 5;negate 0 2;");
            x.add(0, 0, 1);
            Due.due("counters behind add()", x.updateCount() + " " + x.pushCount() + " " + x.appliedCount(), "3 2 3");
            Due.due("marks behind add()", Due.marks(x), "");
            x.undo();
            Due.due("counters behind undo()", x.updateCount() + " " + x.pushCount() + " " + x.appliedCount(), "2 0 2");
            Due.due("marks behind undo()", Due.marks(x), "1:-1,0 2:1,5");
            Due.due("storedSum(4) behind undo()", x.storedSum(4), 1L);
            Due.run(x, "sequence 7;");
            x.undo();
            Due.due("counters behind undo() of a script", x.updateCount() + " " + x.pushCount() + " " + x.appliedCount(), "2 0 2");
            Due.due("marks behind undo() of a script", Due.marks(x), "1:-1,0 2:1,5");
        });
        Edges.of(Edges.TERMS, "Undoing restores everything", () -> {
            LazyRangeTree x = Edges.ofCount(40);
            x.removeLast();
            x.undo();
            Due.due("elementCount() behind undo() of removeLast()", x.elementCount(), 40);
            Due.due("element(39)", x.element(39), 40);
            Due.due("leafOf(39)", x.leafOf(39), 63);
            Due.dueState("appendElement(1)", () -> x.appendElement(1));
            LazyRangeTree y = Edges.ofCount(1);
            y.appendElement(5);
            y.undo();
            Due.due("nodeCount() behind undo() of appendElement()", y.nodeCount(), 1);
            Due.dueIndex("element(1)", () -> y.element(1));
            Due.dueState("removeLast()", y::removeLast);
        });
    }

    private static void leavesTheRest() {
        String words = "except the input buffer, the script error, the report and the snapshot";
        Edges.of(Edges.TERMS, words, () -> {
            LazyRangeTree x = new LazyRangeTree();
            Due.run(x, "sequence 1 2;");
            Due.type(x, "sequence 8;");
            x.undo();
            Due.dueArgument("truncateInput(12) behind undo()", () -> x.truncateInput(12));
            Due.due("truncateInput(11) behind undo()", x.truncateInput(11), 11);
            Due.due("runScript() of what was typed before undo()", x.runScript(), 1);
            x.undo();
            Due.due("the buffer of the undone script stays empty", x.truncateInput(0), 0);
            Due.dueArgument("truncateInput(1)", () -> x.truncateInput(1));
        });
        Edges.of(Edges.TERMS, words, () -> {
            LazyRangeTree x = new LazyRangeTree();
            x.negate(0, 0);
            Due.run(x, "sequence 1;remove;");
            x.undo();
            Due.due("scriptErrorKind() behind undo()", x.scriptErrorKind(), 4);
            Due.due("scriptErrorOffset() behind undo()", x.scriptErrorOffset(), 17);
            Due.run(x, "sequence 1;");
            x.undo();
            Due.due("scriptErrorKind() behind undo() of a script", x.scriptErrorKind(), 0);
            Due.due("scriptErrorOffset() behind undo() of a script", x.scriptErrorOffset(), -1);
        });
        Edges.of(Edges.TERMS, words, () -> {
            LazyRangeTree x = new LazyRangeTree();
            x.writeRange(0, 0);
            x.negate(0, 0);
            x.writeRange(0, 1);
            x.undo();
            Due.due("report behind undo()", Due.report(x), "4,1");
        });
        Edges.of(Edges.TERMS, words, () -> {
            LazyRangeTree x = new LazyRangeTree();
            x.negate(0, 0);
            x.saveSnapshot();
            x.undo();
            Due.due("element(0) behind undo()", x.element(0), -4);
            Due.due("restoreSnapshot() behind undo()", x.restoreSnapshot(), 10);
            Due.due("element(0) of the snapshot", x.element(0), 4);
        });
    }

    private static void promise12() {
        Edges.of(12, "Undoes the latest change that has not been undone.", () -> {
            LazyRangeTree x = changed(3);
            x.undo();
            Due.due("element(0)", x.element(0), 2);
            x.undo();
            Due.due("element(0), not the same change twice", x.element(0), 1);
            x.assign(0, 0, 9);
            x.undo();
            Due.due("element(0), the change behind the undone ones", x.element(0), 1);
            x.undo();
            Due.due("element(0), the one before them", x.element(0), 0);
        });
        Edges.of(12, "Returns the number of changes that can still be undone, or NONE if there was nothing to undo.", () -> {
            LazyRangeTree x = changed(2);
            Due.due("undo() of two", x.undo(), 1);
            Due.due("undo() of one", x.undo(), 0);
            Due.due("undo() of none", x.undo(), -1);
            Due.due("undo() of none again", x.undo(), -1);
            Due.due("undoCount()", x.undoCount(), 0);
            LazyRangeTree fresh = new LazyRangeTree();
            String before = Due.state(fresh);
            Due.due("undo() of a new object", fresh.undo(), -1);
            Due.due("all of it", Due.state(fresh), before);
        });
    }

    private static void promise13() {
        Edges.of(13, "Returns the number of changes that can be undone.", () -> {
            LazyRangeTree x = new LazyRangeTree();
            for (int i = 0; i <= 20; i++) {
                Due.due("undoCount() behind " + i, x.undoCount(), Math.min(i, 8));
                x.pushAll();
            }
            for (int i = 7; i >= 0; i--) {
                x.undo();
                Due.due("undoCount() behind undo()", x.undoCount(), i);
            }
            x.undo();
            Due.due("undoCount() behind undo() of nothing", x.undoCount(), 0);
        });
    }

    private static void promise14() {
        Edges.of(14, "Saves a snapshot of everything that undo restores, in place of an earlier one.", () -> {
            LazyRangeTree x = four();
            x.saveSnapshot();
            x.assign(0, 3, 7);
            String second = Due.state(x);
            x.saveSnapshot();
            x.removeLast();
            x.restoreSnapshot();
            Due.due("all of the later snapshot", Due.state(x), second);
        });
        Edges.of(14, "everything that undo restores", () -> {
            LazyRangeTree x = four();
            String first = Due.state(x);
            x.saveSnapshot();
            Due.run(x, "sequence 5;add 0 0 1;");
            x.restoreSnapshot();
            Due.due("all, also marks and counters", Due.state(x), first);
        });
        Edges.of(14, "This is not a change.", () -> {
            LazyRangeTree x = four();
            String before = Due.state(x);
            x.saveSnapshot();
            Due.due("undoCount()", x.undoCount(), 1);
            Due.due("all", Due.state(x), before);
            for (int i = 0; i < 9; i++) {
                x.negate(0, 0);
                x.saveSnapshot();
            }
            Due.due("undoCount(), eight remembered", x.undoCount(), 8);
        });
        Edges.of(14, "Returns the number of elements.", () -> {
            Due.due("saveSnapshot() of one element", Edges.of(3).saveSnapshot(), 1);
            Due.due("saveSnapshot() of forty", Edges.ofCount(40).saveSnapshot(), 40);
        });
    }

    private static void promise15() {
        Edges.of(15, "Restores the snapshot, which stays saved.", () -> {
            LazyRangeTree x = four();
            x.saveSnapshot();
            String saved = Due.state(x);
            for (int i = 0; i < 3; i++) {
                x.assign(0, i, 7);
                x.restoreSnapshot();
                Due.due("all", Due.state(x), saved);
            }
            Due.due("restoreSnapshot() without a change", x.restoreSnapshot(), 4);
            Due.due("all", Due.state(x), saved);
        });
        Edges.of(15, "Nothing can be undone afterwards.", () -> {
            LazyRangeTree x = four();
            x.saveSnapshot();
            for (int i = 0; i < 9; i++) {
                x.negate(0, 3);
            }
            x.restoreSnapshot();
            Due.due("undoCount()", x.undoCount(), 0);
            String before = Due.state(x);
            Due.due("undo()", x.undo(), -1);
            Due.due("all behind undo() of nothing", Due.state(x), before);
            x.negate(0, 0);
            Due.due("undoCount() behind the next change", x.undoCount(), 1);
            Due.due("undo()", x.undo(), 0);
            Due.due("undo()", x.undo(), -1);
        });
        Edges.of(15, "Returns the number of elements.", () -> {
            LazyRangeTree x = Edges.ofCount(40);
            x.saveSnapshot();
            Due.run(x, "sequence 1;");
            Due.due("restoreSnapshot() of forty", x.restoreSnapshot(), 40);
            Due.due("elementCount()", x.elementCount(), 40);
            Due.run(x, "sequence 1;");
            x.saveSnapshot();
            x.appendElement(1);
            Due.due("restoreSnapshot() of one element", x.restoreSnapshot(), 1);
            Due.due("elementCount()", x.elementCount(), 1);
        });
        Edges.of(15, "Throws `NoSuchElementException` if no snapshot was saved", () -> {
            LazyRangeTree x = new LazyRangeTree();
            x.negate(0, 0);
            String before = Due.state(x);
            Due.dueNoSuch("restoreSnapshot()", x::restoreSnapshot);
            Due.dueNoSuch("restoreSnapshot() again", x::restoreSnapshot);
            Due.due("all", Due.state(x), before);
            Due.due("undoCount()", x.undoCount(), 1);
            x.saveSnapshot();
            Due.due("restoreSnapshot() behind saveSnapshot()", Due.outcome(x::restoreSnapshot), 10);
        });
    }
}
