/** Promises 5 to 11. */
public final class ChangesTest {
    public static void main(String[] args) {
        promise5();
        promise6();
        promise6AtTheLimit();
        promise7();
        updatesLeaveMarks();
        marksCombine();
        promise8();
        promise9();
        promise10();
        promise11();
        refusedCallsChangeNothing();
        Due.close();
    }

    private static void promise5() {
        LazyRangeTree x = Due.made("sequence 1 2 3 4 5;");
        Due.due("assign(1, 3, -8)", x.assign(1, 3, -8), 3);
        Due.due("elements", Due.elements(x), "1 -8 -8 -8 5");
        Due.due("assign(0, 4, 9999)", x.assign(0, 4, 9999), 1);
        Due.due("elements", Due.elements(x), "9999 9999 9999 9999 9999");
        Due.due("assign(4, 4, -9999)", x.assign(4, 4, -9999), 1);
        Due.due("elements", Due.elements(x), "9999 9999 9999 9999 -9999");
        Due.due("assign(0, 0, 0)", x.assign(0, 0, 0), 1);
        Due.due("elements", Due.elements(x), "0 9999 9999 9999 -9999");
        Due.dueRangeChecks("assign", 5, (from, to) -> x.assign(from, to, 7));
        Due.dueRangeChecks("assign with a wrong value", 5, (from, to) -> x.assign(from, to, 10000));
        Due.dueArgument("assign(0, 0, 10000)", () -> x.assign(0, 0, 10000));
        Due.dueArgument("assign(0, 0, -10000)", () -> x.assign(0, 0, -10000));
        Due.dueArgument("assign(0, 0, lowest)", () -> x.assign(0, 0, Integer.MIN_VALUE));
        Due.dueArgument("assign(0, 0, highest)", () -> x.assign(0, 0, Integer.MAX_VALUE));
        LazyRangeTree one = Due.made("sequence 4;");
        Due.due("assign(0, 0, 3)", one.assign(0, 0, 3), 1);
        Due.due("storedSum(1)", one.storedSum(1), 3L);
        Due.dueRangeChecks("assign", 1, (from, to) -> one.assign(from, to, 7));
    }

    private static void promise6() {
        LazyRangeTree x = Due.made("sequence 1 2 3 4 5;");
        Due.due("add(1, 3, -8)", x.add(1, 3, -8), 3);
        Due.due("elements", Due.elements(x), "1 -6 -5 -4 5");
        Due.due("add(0, 4, 9999)", x.add(0, 4, 9999), 1);
        Due.due("elements", Due.elements(x), "10000 9993 9994 9995 10004");
        Due.due("add(2, 2, -9999)", x.add(2, 2, -9999), 1);
        Due.due("elements", Due.elements(x), "10000 9993 -5 9995 10004");
        Due.due("add(2, 4, 0)", x.add(2, 4, 0), 2);
        Due.due("elements", Due.elements(x), "10000 9993 -5 9995 10004");
        Due.dueRangeChecks("add", 5, (from, to) -> x.add(from, to, 7));
        Due.dueRangeChecks("add with a wrong amount", 5, (from, to) -> x.add(from, to, -10000));
        Due.dueArgument("add(0, 0, 10000)", () -> x.add(0, 0, 10000));
        Due.dueArgument("add(0, 0, -10000)", () -> x.add(0, 0, -10000));
        Due.dueArgument("add(0, 0, highest)", () -> x.add(0, 0, Integer.MAX_VALUE));
        Due.dueArgument("add(0, 0, lowest)", () -> x.add(0, 0, Integer.MIN_VALUE));
    }

    private static void promise6AtTheLimit() {
        LazyRangeTree x = Due.made("sequence 9999 0;repeat 11(repeat 9(add 0 0 9999;););");
        Due.due("element(0)", x.element(0), 999900);
        int updates = x.updateCount();
        Due.dueState("add(0, 1, 101)", () -> x.add(0, 1, 101));
        Due.dueState("add(0, 0, 9999)", () -> x.add(0, 0, 9999));
        Due.dueArgument("add(0, 0, 10000)", () -> x.add(0, 0, 10000));
        Due.dueArgument("add(1, 0, 101)", () -> x.add(1, 0, 101));
        Due.dueIndex("add(0, 2, 101)", () -> x.add(0, 2, 101));
        Due.due("updateCount()", x.updateCount(), updates);
        Due.due("add(1, 1, 101)", x.add(1, 1, 101), 1);
        Due.due("add(0, 0, 100)", x.add(0, 0, 100), 1);
        Due.due("elements", Due.elements(x), "1000000 101");
        Due.dueState("add(0, 0, 1)", () -> x.add(0, 0, 1));
        Due.due("add(0, 1, 0)", x.add(0, 1, 0), 1);
        Due.due("negate(0, 0)", x.negate(0, 0), 1);
        Due.dueState("add(0, 1, -1)", () -> x.add(0, 1, -1));
        Due.due("elements", Due.elements(x), "-1000000 101");
        Due.due("add(0, 1, 1)", x.add(0, 1, 1), 1);
        Due.due("elements", Due.elements(x), "-999999 102");
        Due.due("add(0, 1, -1)", x.add(0, 1, -1), 1);
        Due.due("violations()", x.violations(), 0);
    }

    private static void promise7() {
        LazyRangeTree x = Due.made("sequence 1 -2 3 0 5;");
        Due.due("negate(1, 4)", x.negate(1, 4), 3);
        Due.due("elements", Due.elements(x), "1 2 -3 0 -5");
        Due.due("negate(0, 4)", x.negate(0, 4), 1);
        Due.due("elements", Due.elements(x), "-1 -2 3 0 5");
        Due.due("negate(0, 4)", x.negate(0, 4), 1);
        Due.due("elements", Due.elements(x), "1 2 -3 0 -5");
        Due.due("negate(2, 2)", x.negate(2, 2), 1);
        Due.due("elements", Due.elements(x), "1 2 3 0 -5");
        Due.dueRangeChecks("negate", 5, (from, to) -> x.negate(from, to));
    }

    private static void updatesLeaveMarks() {
        LazyRangeTree x = Due.made("sequence 1 2 3 4 5 6 7 8;");
        Due.due("add(1, 6, 10)", x.add(1, 6, 10), 4);
        Due.due("marks", Due.marks(x), "5:1,10 6:1,10");
        Due.due("storedSum(1)", x.storedSum(1), 96L);
        Due.due("storedSum(5)", x.storedSum(5), 27L);
        Due.due("storedSum(10)", x.storedSum(10), 3L);
        Due.due("negate(0, 7)", x.negate(0, 7), 1);
        Due.due("assign(2, 3, 4)", x.assign(2, 3, 4), 1);
        Due.due("marks", Due.marks(x), "3:-1,0 4:-1,0 5:0,4 6:1,10");
        Due.due("storedSum(2)", x.storedSum(2), -5L);
        Due.due("storedSum(3)", x.storedSum(3), -56L);
        Due.due("storedSum(6)", x.storedSum(6), 31L);
        Due.due("pushCount()", x.pushCount(), 2);
        Due.due("add(4, 4, 1)", x.add(4, 4, 1), 1);
        Due.due("marks", Due.marks(x), "4:-1,0 5:0,4 7:-1,0");
        Due.due("pushCount()", x.pushCount(), 4);
        Due.due("elements", Due.elements(x), "-1 -12 4 4 -14 -16 -17 -8");
    }

    private static void marksCombine() {
        LazyRangeTree x = Due.made("sequence 1 2;");
        x.add(0, 1, 5);
        Due.due("marks", Due.marks(x), "1:1,5");
        x.negate(0, 1);
        Due.due("marks", Due.marks(x), "1:-1,-5");
        x.add(0, 1, 7);
        Due.due("marks", Due.marks(x), "1:-1,2");
        x.negate(0, 1);
        Due.due("marks", Due.marks(x), "1:1,-2");
        x.add(0, 1, 2);
        Due.due("marks", Due.marks(x), "");
        x.assign(0, 1, 0);
        Due.due("marks", Due.marks(x), "1:0,0");
        x.add(0, 1, 3);
        x.negate(0, 1);
        Due.due("marks", Due.marks(x), "1:0,-3");
        Due.due("storedLeast(2)", x.storedLeast(2), 1);
        Due.due("elements", Due.elements(x), "-3 -3");
        x.assign(0, 1, 9);
        Due.due("marks", Due.marks(x), "1:0,9");
    }

    private static void promise8() {
        LazyRangeTree x = Due.made("sequence 1 2 3;add 0 2 4;negate 0 2;");
        Due.due("pushDown(2)", x.pushDown(2), false);
        Due.due("pushCount()", x.pushCount(), 0);
        Due.due("pushDown(1)", x.pushDown(1), true);
        Due.due("marks", Due.marks(x), "2:-1,-4");
        Due.due("storedSum(2)", x.storedSum(2), -11L);
        Due.due("storedSum(3)", x.storedSum(3), -7L);
        Due.due("storedSum(4)", x.storedSum(4), 1L);
        Due.due("pushDown(1)", x.pushDown(1), false);
        Due.due("pushDown(2)", x.pushDown(2), true);
        Due.due("marks", Due.marks(x), "");
        Due.due("storedSum(4)", x.storedSum(4), -5L);
        Due.due("storedSum(5)", x.storedSum(5), -6L);
        Due.due("pushCount()", x.pushCount(), 2);
        Due.due("elements", Due.elements(x), "-5 -6 -7");
        Due.due("a push of an empty mark is a change", x.undoCount(), 5);
        for (int leaf : new int[] {3, 4, 5}) {
            Due.dueState("pushDown of a leaf", () -> x.pushDown(leaf));
        }
        for (int none : new int[] {0, -1, 6, 7, 8, 127, 128, 1000, Integer.MIN_VALUE, Integer.MAX_VALUE}) {
            Due.dueIndex("pushDown of no node", () -> x.pushDown(none));
        }
        LazyRangeTree one = Due.made("sequence 1;");
        Due.dueState("pushDown(1)", () -> one.pushDown(1));
        Due.dueIndex("pushDown(2)", () -> one.pushDown(2));
    }

    private static void promise9() {
        LazyRangeTree x = Due.made("sequence 1 2 3 4 5;add 0 2 4;negate 0 4;add 3 3 2;");
        Due.due("marks", Due.marks(x), "2:-1,-4");
        Due.due("pushAll()", x.pushAll(), 2);
        Due.due("marks", Due.marks(x), "");
        Due.due("pushCount()", x.pushCount(), 4);
        Due.due("elements", Due.elements(x), "-5 -6 -7 -2 -5");
        Due.due("pushAll()", x.pushAll(), 0);
        Due.due("pushAll() is a change", x.undoCount(), 3);
        x.assign(0, 4, 1);
        Due.due("pushAll()", x.pushAll(), 4);
        Due.due("storedSum(8)", x.storedSum(8), 1L);
        LazyRangeTree cancel = Due.made("sequence 1 2 3;negate 0 1;negate 0 2;");
        Due.due("marks", Due.marks(cancel), "1:-1,0 2:-1,0");
        Due.due("pushAll()", cancel.pushAll(), 1);
        Due.due("storedSum(4)", cancel.storedSum(4), 1L);
        Due.due("elements", Due.elements(cancel), "1 2 -3");
        LazyRangeTree one = Due.made("sequence 1;negate 0 0;");
        Due.due("pushAll()", one.pushAll(), 0);
    }

    private static void promise10() {
        LazyRangeTree x = Due.made("sequence 1 2 3;add 0 2 4;negate 0 1;");
        Due.due("appendElement(-9999)", x.appendElement(-9999), 4);
        Due.due("elements", Due.elements(x), "-5 -6 7 -9999");
        Due.due("marks", Due.marks(x), "");
        Due.due("storedSum(4)", x.storedSum(4), -5L);
        Due.due("nodeCount()", x.nodeCount(), 7);
        Due.due("updateCount()", x.updateCount(), 2);
        Due.due("pushCount()", x.pushCount(), 1);
        Due.due("appliedCount()", x.appliedCount(), 2);
        Due.due("appendElement(9999)", x.appendElement(9999), 5);
        Due.dueArgument("appendElement(10000)", () -> x.appendElement(10000));
        Due.dueArgument("appendElement(-10000)", () -> x.appendElement(-10000));
        Due.dueArgument("appendElement(highest)", () -> x.appendElement(Integer.MAX_VALUE));
        Due.dueArgument("appendElement(lowest)", () -> x.appendElement(Integer.MIN_VALUE));
        for (int n = 6; n <= 40; n++) {
            Due.due("appendElement(0)", x.appendElement(n), n);
        }
        Due.dueState("appendElement(0) at 40", () -> x.appendElement(0));
        Due.dueArgument("appendElement(10000) at 40", () -> x.appendElement(10000));
        Due.due("elementCount()", x.elementCount(), 40);
        Due.due("element(39)", x.element(39), 40);
        LazyRangeTree great = Due.made("sequence 9999 0;repeat 11(repeat 9(add 0 0 9999;););");
        great.appendElement(1);
        Due.due("elements", Due.elements(great), "999900 0 1");
    }

    private static void promise11() {
        LazyRangeTree x = Due.made("sequence 1 2 3 4;add 0 3 4;negate 2 3;");
        Due.due("removeLast()", x.removeLast(), -8);
        Due.due("elements", Due.elements(x), "5 6 -7");
        Due.due("marks", Due.marks(x), "");
        Due.due("storedSum(4)", x.storedSum(4), 5L);
        Due.due("nodeCount()", x.nodeCount(), 5);
        Due.due("updateCount()", x.updateCount(), 2);
        Due.due("pushCount()", x.pushCount(), 1);
        Due.due("appliedCount()", x.appliedCount(), 2);
        Due.due("removeLast()", x.removeLast(), -7);
        Due.due("removeLast()", x.removeLast(), 6);
        Due.dueState("removeLast() at 1", () -> x.removeLast());
        Due.due("elements", Due.elements(x), "5");
        Due.dueIndex("element(1)", () -> x.element(1));
    }

    private static void refusedCallsChangeNothing() {
        LazyRangeTree x = Due.made("sequence 1;add 0 0 9999;");
        Due.outcome(() -> x.assign(0, 1, 5));
        Due.outcome(() -> x.assign(0, 0, 10000));
        Due.outcome(() -> x.add(0, 0, 10000));
        Due.outcome(() -> x.negate(1, 0));
        Due.outcome(() -> x.pushDown(1));
        Due.outcome(() -> x.pushDown(2));
        Due.outcome(() -> x.appendElement(10000));
        Due.outcome(() -> x.removeLast());
        Due.outcome(() -> x.restoreSnapshot());
        Due.due("undoCount()", x.undoCount(), 1);
        Due.due("elements", Due.elements(x), "10000");
        Due.due("updateCount()", x.updateCount(), 1);
        Due.due("pushCount()", x.pushCount(), 0);
        Due.due("appliedCount()", x.appliedCount(), 1);
    }
}
