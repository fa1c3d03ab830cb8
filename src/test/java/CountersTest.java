/** Promises 60 to 63. */
public final class CountersTest {
    public static void main(String[] args) {
        promise60();
        promise61();
        promise62();
        promise63();
        Due.close();
    }

    private static void promise60() {
        LazyRangeTree x = Due.made("sequence 1 2 3 4;");
        Due.due("updateCount()", x.updateCount(), 0);
        x.assign(0, 3, 1);
        Due.due("updateCount()", x.updateCount(), 1);
        x.add(1, 2, 0);
        Due.due("updateCount()", x.updateCount(), 2);
        x.negate(1, 2);
        Due.due("updateCount()", x.updateCount(), 3);
        x.pushDown(1);
        x.pushAll();
        x.appendElement(3);
        x.removeLast();
        x.saveSnapshot();
        Due.outcome(() -> x.add(0, 0, 10000));
        Due.due("updateCount()", x.updateCount(), 3);
        x.negate(0, 0);
        x.restoreSnapshot();
        Due.due("updateCount() of the snapshot", x.updateCount(), 3);
    }

    private static void promise61() {
        LazyRangeTree x = Due.made("sequence 1 2 3 4;");
        x.assign(0, 3, 1);
        Due.due("pushCount()", x.pushCount(), 0);
        x.negate(0, 0);
        Due.due("pushCount() by an update", x.pushCount(), 2);
        x.negate(0, 0);
        Due.due("pushCount() of empty marks", x.pushCount(), 2);
        x.pushDown(3);
        Due.due("pushCount() by pushDown()", x.pushCount(), 3);
        x.pushDown(3);
        Due.due("pushCount() of an empty mark", x.pushCount(), 3);
        x.negate(0, 3);
        x.pushAll();
        Due.due("pushCount() by pushAll()", x.pushCount(), 6);
        x.add(0, 3, 1);
        x.appendElement(1);
        Due.due("building again pushes nothing", x.pushCount(), 6);
    }

    private static void promise62() {
        LazyRangeTree x = Due.made("sequence 1 2 3 4 5 6 7 8;");
        Due.due("appliedCount()", x.appliedCount(), 0);
        x.assign(0, 7, 1);
        Due.due("appliedCount()", x.appliedCount(), 1);
        x.add(1, 6, 1);
        Due.due("appliedCount()", x.appliedCount(), 5);
        x.negate(3, 3);
        Due.due("appliedCount()", x.appliedCount(), 6);
        x.pushAll();
        x.pushDown(1);
        Due.due("pushes do not count", x.appliedCount(), 6);
        x.add(2, 5, 0);
        Due.due("an empty mark counts", x.appliedCount(), 8);
    }

    private static void promise63() {
        LazyRangeTree x = new LazyRangeTree();
        Due.due("violations()", x.violations(), 0);
        for (int from = 0; from < 10; from++) {
            for (int to = from; to < 10; to++) {
                x.add(from, to, 9999 - 100 * from);
                Due.due("violations() behind add", x.violations(), 0);
                x.negate(from / 2, to);
                Due.due("violations() behind negate", x.violations(), 0);
                x.assign(from, from, to - 5);
                Due.due("violations() behind assign", x.violations(), 0);
                x.pushDown(1 + from % 5);
                Due.due("violations() behind pushDown", x.violations(), 0);
            }
        }
        x.removeLast();
        Due.due("violations()", x.violations(), 0);
        Due.due("violations()", Due.made("sequence 1;negate 0 0;").violations(), 0);
    }
}
