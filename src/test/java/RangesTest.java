/** Promises 18 to 32. */
public final class RangesTest {
    public static void main(String[] args) {
        promise18();
        promise19();
        promise20();
        promises21And22();
        promises23To26();
        promise27();
        promises28And29();
        promise30();
        promise31();
        promise32();
        ofOneElement();
        Due.close();
    }

    private static void promise18() {
        LazyRangeTree x = new LazyRangeTree();
        Due.due("elementCount()", x.elementCount(), 10);
        x.removeLast();
        Due.due("elementCount()", x.elementCount(), 9);
        x.appendElement(1);
        x.appendElement(1);
        Due.due("elementCount()", x.elementCount(), 11);
        Due.run(x, "sequence 3;");
        Due.due("elementCount()", x.elementCount(), 1);
    }

    private static void promise19() {
        LazyRangeTree x = Due.made("sequence 1 2 3 4 5 6 7;add 1 5 10;negate 0 6;assign 3 3 8;add 3 6 1;");
        Due.due("element(0)", x.element(0), -1);
        Due.due("element(1)", x.element(1), -12);
        Due.due("element(3)", x.element(3), 9);
        Due.due("element(5)", x.element(5), -15);
        Due.due("element(6)", x.element(6), -6);
        for (int none : new int[] {-1, 7, 40, Integer.MIN_VALUE, Integer.MAX_VALUE}) {
            Due.dueIndex("element of no index", () -> x.element(none));
        }
    }

    private static void promise20() {
        LazyRangeTree x = new LazyRangeTree();
        Due.due("sum(0, 9)", x.sum(0, 9), -7L);
        Due.due("sum(2, 2)", x.sum(2, 2), -8L);
        Due.due("sum(5, 8)", x.sum(5, 8), 23L);
        Due.due("sum(9, 9)", x.sum(9, 9), -5L);
        Due.dueRangeChecks("sum", 10, (from, to) -> x.sum(from, to));
        LazyRangeTree great = Due.made("sequence 9999 9999 9999;repeat 11(repeat 9(add 0 2 9999;););add 0 2 100;");
        for (int n = 4; n <= 40; n++) {
            great.appendElement(0);
        }
        for (int i = 0; i < 101; i++) {
            great.add(3, 39, i < 100 ? 9999 : 100);
        }
        Due.due("sum(0, 39)", great.sum(0, 39), 40000000L);
    }

    private static void promises21And22() {
        LazyRangeTree x = new LazyRangeTree();
        Due.due("least(0, 9)", x.least(0, 9), -8);
        Due.due("least(5, 8)", x.least(5, 8), 2);
        Due.due("least(9, 9)", x.least(9, 9), -5);
        Due.due("least(5, 9)", x.least(5, 9), -5);
        Due.due("least(0, 1)", x.least(0, 1), -4);
        Due.due("least(0, 2)", x.least(0, 2), -8);
        Due.due("greatest(5, 7)", x.greatest(5, 7), 6);
        Due.due("greatest(5, 8)", x.greatest(5, 8), 10);
        Due.due("greatest(0, 9)", x.greatest(0, 9), 10);
        Due.due("greatest(0, 4)", x.greatest(0, 4), 1);
        Due.due("greatest(2, 4)", x.greatest(2, 4), -7);
        Due.due("greatest(9, 9)", x.greatest(9, 9), -5);
        Due.dueRangeChecks("least", 10, (from, to) -> x.least(from, to));
        Due.dueRangeChecks("greatest", 10, (from, to) -> x.greatest(from, to));
    }

    private static void promises23To26() {
        LazyRangeTree x = Due.made("sequence 3 1 3 1 2 3 1 3;");
        Due.due("firstLeast(0, 7)", x.firstLeast(0, 7), 1);
        Due.due("firstLeast(2, 7)", x.firstLeast(2, 7), 3);
        Due.due("firstLeast(4, 5)", x.firstLeast(4, 5), 4);
        Due.due("firstLeast(4, 6)", x.firstLeast(4, 6), 6);
        Due.due("firstGreatest(0, 7)", x.firstGreatest(0, 7), 0);
        Due.due("firstGreatest(3, 7)", x.firstGreatest(3, 7), 5);
        Due.due("firstGreatest(3, 4)", x.firstGreatest(3, 4), 4);
        Due.due("leastCount(0, 7)", x.leastCount(0, 7), 3);
        Due.due("leastCount(2, 5)", x.leastCount(2, 5), 1);
        Due.due("leastCount(4, 4)", x.leastCount(4, 4), 1);
        Due.due("greatestCount(0, 7)", x.greatestCount(0, 7), 4);
        Due.due("greatestCount(3, 6)", x.greatestCount(3, 6), 1);
        Due.due("greatestCount(0, 2)", x.greatestCount(0, 2), 2);
        Due.dueRangeChecks("firstLeast", 8, (from, to) -> x.firstLeast(from, to));
        Due.dueRangeChecks("firstGreatest", 8, (from, to) -> x.firstGreatest(from, to));
        Due.dueRangeChecks("leastCount", 8, (from, to) -> x.leastCount(from, to));
        Due.dueRangeChecks("greatestCount", 8, (from, to) -> x.greatestCount(from, to));
    }

    private static void promise27() {
        LazyRangeTree x = Due.made("sequence 1 1 2 2 2 1 3;");
        Due.due("runCount(0, 6)", x.runCount(0, 6), 4);
        Due.due("runCount(1, 4)", x.runCount(1, 4), 2);
        Due.due("runCount(2, 4)", x.runCount(2, 4), 1);
        Due.due("runCount(6, 6)", x.runCount(6, 6), 1);
        Due.dueRangeChecks("runCount", 7, (from, to) -> x.runCount(from, to));
    }

    private static void promises28And29() {
        LazyRangeTree x = Due.made("sequence 1 2 2 5 4 4 3 9;");
        Due.due("isAscending(0, 3)", x.isAscending(0, 3), true);
        Due.due("isAscending(0, 4)", x.isAscending(0, 4), false);
        Due.due("isAscending(3, 4)", x.isAscending(3, 4), false);
        Due.due("isAscending(6, 7)", x.isAscending(6, 7), true);
        Due.due("isAscending(4, 4)", x.isAscending(4, 4), true);
        Due.due("isDescending(3, 6)", x.isDescending(3, 6), true);
        Due.due("isDescending(3, 7)", x.isDescending(3, 7), false);
        Due.due("isDescending(2, 6)", x.isDescending(2, 6), false);
        Due.due("isDescending(1, 2)", x.isDescending(1, 2), true);
        Due.due("isDescending(7, 7)", x.isDescending(7, 7), true);
        Due.dueRangeChecks("isAscending", 8, (from, to) -> x.isAscending(from, to));
        Due.dueRangeChecks("isDescending", 8, (from, to) -> x.isDescending(from, to));
    }

    private static void promise30() {
        LazyRangeTree x = Due.made("sequence 1 4 -3 -3 -9 0;");
        Due.due("steepestStep(0, 5)", x.steepestStep(0, 5), 9);
        Due.due("steepestStep(0, 4)", x.steepestStep(0, 4), 7);
        Due.due("steepestStep(0, 1)", x.steepestStep(0, 1), 3);
        Due.due("steepestStep(2, 3)", x.steepestStep(2, 3), 0);
        Due.due("steepestStep(1, 1)", x.steepestStep(1, 1), 0);
        Due.dueRangeChecks("steepestStep", 6, (from, to) -> x.steepestStep(from, to));
        LazyRangeTree far = Due.made("sequence 9999 9999;repeat 11(repeat 9(add 0 1 9999;););add 0 1 100;negate 1 1;");
        Due.due("steepestStep(0, 1)", far.steepestStep(0, 1), 2000000);
    }

    private static void promise31() {
        LazyRangeTree x = Due.made("sequence 1 2 4 -8;");
        Due.due("mean(0, 2)", x.mean(0, 2), 7.0 / 3.0);
        Due.due("mean(0, 1)", x.mean(0, 1), 1.5);
        Due.due("mean(0, 3)", x.mean(0, 3), -0.25);
        Due.due("mean(3, 3)", x.mean(3, 3), -8.0);
        Due.dueRangeChecks("mean", 4, (from, to) -> x.mean(from, to));
    }

    private static void promise32() {
        LazyRangeTree x = Due.made("sequence 5 2 5 1 4 4;");
        Due.due("greatestShare(0, 5)", x.greatestShare(0, 5), 2f / 6f);
        Due.due("greatestShare(0, 2)", x.greatestShare(0, 2), 2f / 3f);
        Due.due("greatestShare(3, 5)", x.greatestShare(3, 5), 2f / 3f);
        Due.due("greatestShare(1, 1)", x.greatestShare(1, 1), 1f);
        Due.dueRangeChecks("greatestShare", 6, (from, to) -> x.greatestShare(from, to));
    }

    private static void ofOneElement() {
        LazyRangeTree x = Due.made("sequence -4;");
        Due.due("sum(0, 0)", x.sum(0, 0), -4L);
        Due.due("least(0, 0)", x.least(0, 0), -4);
        Due.due("greatest(0, 0)", x.greatest(0, 0), -4);
        Due.due("firstLeast(0, 0)", x.firstLeast(0, 0), 0);
        Due.due("firstGreatest(0, 0)", x.firstGreatest(0, 0), 0);
        Due.due("mean(0, 0)", x.mean(0, 0), -4.0);
        Due.dueRangeChecks("sum", 1, (from, to) -> x.sum(from, to));
    }
}
