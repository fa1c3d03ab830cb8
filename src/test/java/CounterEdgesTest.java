/** Promises 60 to 65, sentence by sentence at their boundaries. */
public final class CounterEdgesTest {
    public static void main(String[] args) {
        all();
        Due.close();
    }

    static void all() {
        updates();
        pushes();
        applications();
        violations();
        writing();
        bytes();
    }

    private static void updates() {
        Edges.of(60, "Returns the number of updates (assign, add and negate) so far.", () -> {
            LazyRangeTree x = Edges.of(1, 2, 3);
            Due.due("updateCount(), built", x.updateCount(), 0);
            x.assign(0, 0, 1);
            Due.due("updateCount() behind assign()", x.updateCount(), 1);
            x.add(0, 2, 0);
            Due.due("updateCount() behind add() of 0", x.updateCount(), 2);
            x.negate(0, 2);
            Due.due("updateCount() behind negate()", x.updateCount(), 3);
            x.pushDown(1);
            x.pushAll();
            x.appendElement(1);
            x.removeLast();
            Due.due("updateCount() behind changes that are no updates", x.updateCount(), 3);
            Due.outcome(() -> x.assign(0, 3, 1));
            Due.outcome(() -> x.assign(0, 0, 10000));
            Due.outcome(() -> x.add(0, 0, -10000));
            Due.outcome(() -> x.negate(1, 0));
            Due.due("updateCount() behind refused calls", x.updateCount(), 3);
            x.canAdd(0, 2, 1);
            x.totalIfAssigned(0, 2, 1);
            Due.due("updateCount() behind questions", x.updateCount(), 3);
        });
        Edges.of(60, "so far", () -> {
            LazyRangeTree x = Edges.atTheLimits();
            int updates = x.updateCount();
            Due.dueState("add(0, 0, 1)", () -> x.add(0, 0, 1));
            Due.due("updateCount() behind a refused add()", x.updateCount(), updates);
            Due.due("updateCount() of a new object", new LazyRangeTree().updateCount(), 4);
            Due.due("updateCount() of 200 updates", Due.made("sequence 0;repeat 20(repeat 10(add 0 0 1;););").updateCount(), 200);
        });
    }

    private static void pushes() {
        Edges.of(61, "Returns the number of pushes so far.", () -> {
            LazyRangeTree x = Edges.ofCount(4);
            x.negate(0, 3);
            Due.due("pushCount(), marks but no push", x.pushCount(), 0);
            x.negate(0, 3);
            x.pushDown(1);
            Due.due("pushCount() behind pushDown() of an empty mark", x.pushCount(), 0);
            x.negate(0, 3);
            x.pushDown(1);
            Due.due("pushCount() behind pushDown()", x.pushCount(), 1);
            x.add(0, 0, 1);
            Due.due("pushCount() behind an update", x.pushCount(), 2);
            x.pushAll();
            Due.due("pushCount() behind pushAll()", x.pushCount(), 3);
            x.pushAll();
            Due.due("pushCount() behind pushAll() of empty marks", x.pushCount(), 3);
            Due.dueState("pushDown(4)", () -> x.pushDown(4));
            Due.due("pushCount() behind a refused pushDown()", x.pushCount(), 3);
            x.assign(0, 3, 1);
            x.appendElement(5);
            Due.due("pushCount(), built again", x.pushCount(), 3);
            Due.due("pushCount() of a new object", new LazyRangeTree().pushCount(), 0);
        });
    }

    private static void applications() {
        Edges.of(62, "Returns the number of nodes to which marks of updates were applied so far.", () -> {
            LazyRangeTree x = Edges.ofCount(8);
            Due.due("appliedCount(), built", x.appliedCount(), 0);
            x.add(0, 7, 0);
            Due.due("appliedCount(), the root, an empty mark", x.appliedCount(), 1);
            x.add(0, 7, 1);
            Due.due("appliedCount(), the root again", x.appliedCount(), 2);
            x.pushAll();
            Due.due("appliedCount() behind pushes", x.appliedCount(), 2);
            x.negate(7, 7);
            Due.due("appliedCount(), a leaf", x.appliedCount(), 3);
            x.assign(1, 6, 1);
            Due.due("appliedCount(), four nodes", x.appliedCount(), 7);
            Due.outcome(() -> x.assign(1, 8, 1));
            Due.outcome(() -> x.add(1, 6, 10000));
            Due.due("appliedCount() behind refused calls", x.appliedCount(), 7);
            x.appliedFor(1, 6);
            Due.due("appliedCount() behind questions", x.appliedCount(), 7);
            x.removeLast();
            Due.due("appliedCount(), built again", x.appliedCount(), 7);
            Due.due("appliedCount() of a new object", new LazyRangeTree().appliedCount(), 7);
        });
    }

    private static void violations() {
        Edges.of(63, "it is always 0", () -> {
            Due.due("violations() of a new object", new LazyRangeTree().violations(), 0);
            Due.due("violations() of one element", Due.made("sequence 1;negate 0 0;add 0 0 3;").violations(), 0);
            Due.due("violations() at the limits", Edges.atTheLimits().violations(), 0);
            LazyRangeTree x = Edges.ofCount(40);
            for (int from = 0; from < 40; from += 3) {
                x.negate(from, 39);
                x.assign(from / 2, from, from);
                x.add(0, from, -9999);
                Due.due("violations() behind updates", x.violations(), 0);
                Due.outcome(() -> x.pushDown(2));
                Due.due("violations() behind pushDown()", x.violations(), 0);
            }
            x.pushAll();
            Due.due("violations() behind pushAll()", x.violations(), 0);
            x.negate(5, 9);
            x.removeLast();
            Due.due("violations() behind removeLast()", x.violations(), 0);
            x.undo();
            Due.due("violations() behind undo()", x.violations(), 0);
        });
        Edges.of(63, "nodes that are not leaves and whose stored sum, least or greatest element is not what the summaries of both children give"
                + " when the mark of the node is applied to them", () -> {
            LazyRangeTree x = Due.made("sequence 4 -3 2 -1 0;add 1 3 5;negate 0 2;assign 3 4 6;negate 0 4;add 0 4 2;");
            for (int node = 1; node <= 4; node++) {
                int f = x.markFactor(node);
                int g = x.markOffset(node);
                int count = x.lastIndex(node) - x.firstIndex(node) + 1;
                int least = Math.min(x.storedLeast(2 * node), x.storedLeast(2 * node + 1));
                int greatest = Math.max(x.storedGreatest(2 * node), x.storedGreatest(2 * node + 1));
                Due.due("storedSum", x.storedSum(node), f * (x.storedSum(2 * node) + x.storedSum(2 * node + 1)) + (long) g * count);
                Due.due("storedLeast", x.storedLeast(node), Math.min(f * least, f * greatest) + g);
                Due.due("storedGreatest", x.storedGreatest(node), Math.max(f * least, f * greatest) + g);
            }
            Due.due("violations()", x.violations(), 0);
        });
    }

    private static String written(LazyRangeTree x, int from, int to) {
        int length = x.writeRange(from, to);
        String report = Due.report(x);
        Due.due("writeRange(" + from + ", " + to + ") of " + report, length, report.length());
        return report;
    }

    private static void writing() {
        RangeEdges.of(64, "writeRange", (x, from, to) -> written(x, from, to), (values, from, to) -> {
            StringBuilder text = new StringBuilder();
            for (int i = from; i <= to; i++) {
                text.append(i == from ? "" : ",").append(values[i]);
            }
            return text.toString();
        });
        Edges.of(64, "Writes the elements of a range as a report, in place of the previous report: separated by commas, without spaces, negative ones with a hyphen.", () -> {
            LazyRangeTree x = Edges.of(0, -1, 1, 9, 10, 11, -99, 100, 999, -1000, 1001, 9999, -9999);
            Due.due("report", written(x, 0, 12), "0,-1,1,9,10,11,-99,100,999,-1000,1001,9999,-9999");
            Due.due("report, shorter than the previous one", written(x, 1, 1), "-1");
            Due.due("report, longer than the previous one", written(x, 0, 2), "0,-1,1");
            LazyRangeTree far = Due.made("sequence 1 10 100 999 5000;add 1 1 9989;add 2 2 9899;add 2 2 9999;add 3 3 9000;add 4 4 5000;");
            Due.due("report of five digits", written(far, 0, 4), "1,9999,19998,9999,10000");
            LazyRangeTree limits = Edges.atTheLimits();
            Due.due("report at the limits", written(limits, 0, 2), "1000000,-1000000,0");
            limits.add(0, 0, -1);
            limits.add(1, 1, 1);
            Due.due("report of six digits", written(limits, 0, 1), "999999,-999999");
            LazyRangeTree tens = Due.made("sequence 9999 -9999;repeat 9(add 0 0 9999;add 1 1 -9999;);add 0 0 9;add 1 1 -9;");
            Due.due("report of five digits", written(tens, 0, 1), "99999,-99999");
            tens.add(0, 0, 1);
            tens.add(1, 1, -1);
            Due.due("report of six digits", written(tens, 0, 1), "100000,-100000");
            limits.assign(0, 2, 0);
            limits.negate(0, 2);
            Due.due("report of zeros negated, without hyphens", written(limits, 0, 2), "0,0,0");
        });
        Edges.of(64, "in place of the previous report", () -> {
            LazyRangeTree x = Edges.of(5, 6);
            x.writeRange(0, 1);
            Due.dueArgument("writeRange(1, 0)", () -> x.writeRange(1, 0));
            Due.dueIndex("writeRange(0, 2)", () -> x.writeRange(0, 2));
            Due.due("report behind refused calls", Due.report(x), "5,6");
            x.assign(0, 1, 3);
            x.removeLast();
            Due.due("report behind changes", Due.report(x), "5,6");
            Due.due("a report is no change", x.undoCount(), 3);
        });
        Edges.of(64, "Returns the length of the report in bytes.", () -> {
            LazyRangeTree x = Due.made("sequence 0;repeat 13(append 0;append 0;append 0;);repeat 10(repeat 10(add 0 39 -9999;););add 0 39 -100;");
            Due.due("writeRange(0, 39), the longest one", x.writeRange(0, 39), 359);
            Due.due("reportByte(358)", x.reportByte(358), 48);
            Due.due("reportByte(351)", x.reportByte(351), 45);
            Due.due("reportByte(359)", x.reportByte(359), -1);
            Due.due("writeRange(39, 39)", x.writeRange(39, 39), 8);
            Due.due("writeRange(0, 0), the shortest one", Edges.of(7).writeRange(0, 0), 1);
        });
    }

    private static void bytes() {
        Edges.of(65, "`index`: the index of the byte, from 0", () -> {
            LazyRangeTree x = Edges.of(-12, 3);
            x.writeRange(0, 1);
            int[] due = {45, 49, 50, 44, 51};
            for (int index = 0; index < 5; index++) {
                Due.due("reportByte(" + index + ")", x.reportByte(index), due[index]);
            }
        });
        Edges.of(65, "Returns the byte, or NONE if the report has no such byte or nothing was written.", () -> {
            LazyRangeTree x = Edges.of(-12, 3);
            for (int index : new int[] {0, 1, -1, 359, 360, Integer.MIN_VALUE, Integer.MAX_VALUE}) {
                Due.due("reportByte(" + index + "), nothing written", x.reportByte(index), -1);
            }
            Due.dueIndex("writeRange(0, 2)", () -> x.writeRange(0, 2));
            Due.due("reportByte(0) behind a refused writeRange()", x.reportByte(0), -1);
            x.writeRange(0, 1);
            for (int none : new int[] {5, 6, 359, 360, 361, -1, -2, Integer.MIN_VALUE, Integer.MAX_VALUE}) {
                Due.due("reportByte(" + none + ") of five", x.reportByte(none), -1);
            }
            Due.due("reportByte(4) of five", x.reportByte(4), 51);
            x.writeRange(1, 1);
            Due.due("reportByte(0) of one", x.reportByte(0), 51);
            Due.due("reportByte(1) of one, which the previous report had", x.reportByte(1), -1);
            Due.run(x, "sequence 1;");
            Due.due("reportByte(0) behind a script", x.reportByte(0), 51);
            x.undo();
            Due.due("reportByte(0) behind undo()", x.reportByte(0), 51);
        });
    }
}
