/** Promises 33 to 39. */
public final class SearchesTest {
    private static final int[] NO_INDEXES = {-1, 6, 40, Integer.MIN_VALUE, Integer.MAX_VALUE};

    public static void main(String[] args) {
        promise33();
        promise34();
        promise35();
        promise36();
        promise37();
        promise38();
        promise39();
        removedElementsAreNotFound();
        Due.close();
    }

    private static LazyRangeTree six() {
        return Due.made("sequence 4 7 7 -2 7 0;");
    }

    private static void promise33() {
        LazyRangeTree x = six();
        Due.due("firstAtLeast(0, 5)", x.firstAtLeast(0, 5), 1);
        Due.due("firstAtLeast(0, 4)", x.firstAtLeast(0, 4), 0);
        Due.due("firstAtLeast(3, 7)", x.firstAtLeast(3, 7), 4);
        Due.due("firstAtLeast(5, 0)", x.firstAtLeast(5, 0), 5);
        Due.due("firstAtLeast(5, 1)", x.firstAtLeast(5, 1), -1);
        Due.due("firstAtLeast(0, 8)", x.firstAtLeast(0, 8), -1);
        Due.due("firstAtLeast(2, lowest)", x.firstAtLeast(2, Integer.MIN_VALUE), 2);
        Due.due("firstAtLeast(2, highest)", x.firstAtLeast(2, Integer.MAX_VALUE), -1);
        for (int none : NO_INDEXES) {
            Due.dueIndex("firstAtLeast from no index", () -> x.firstAtLeast(none, 0));
        }
    }

    private static void promise34() {
        LazyRangeTree x = six();
        Due.due("firstBelow(0, 5)", x.firstBelow(0, 5), 0);
        Due.due("firstBelow(0, 4)", x.firstBelow(0, 4), 3);
        Due.due("firstBelow(4, 4)", x.firstBelow(4, 4), 5);
        Due.due("firstBelow(3, -2)", x.firstBelow(3, -2), -1);
        Due.due("firstBelow(5, 1)", x.firstBelow(5, 1), 5);
        Due.due("firstBelow(5, 0)", x.firstBelow(5, 0), -1);
        Due.due("firstBelow(2, lowest)", x.firstBelow(2, Integer.MIN_VALUE), -1);
        Due.due("firstBelow(2, highest)", x.firstBelow(2, Integer.MAX_VALUE), 2);
        for (int none : NO_INDEXES) {
            Due.dueIndex("firstBelow from no index", () -> x.firstBelow(none, 0));
        }
    }

    private static void promise35() {
        LazyRangeTree x = six();
        Due.due("lastAtLeast(5, 1)", x.lastAtLeast(5, 1), 4);
        Due.due("lastAtLeast(5, 0)", x.lastAtLeast(5, 0), 5);
        Due.due("lastAtLeast(3, 7)", x.lastAtLeast(3, 7), 2);
        Due.due("lastAtLeast(0, 4)", x.lastAtLeast(0, 4), 0);
        Due.due("lastAtLeast(0, 5)", x.lastAtLeast(0, 5), -1);
        Due.due("lastAtLeast(5, 8)", x.lastAtLeast(5, 8), -1);
        Due.due("lastAtLeast(3, lowest)", x.lastAtLeast(3, Integer.MIN_VALUE), 3);
        for (int none : NO_INDEXES) {
            Due.dueIndex("lastAtLeast from no index", () -> x.lastAtLeast(none, 0));
        }
    }

    private static void promise36() {
        LazyRangeTree x = Due.made("sequence 2 2 1 2 2 2 1 1;");
        Due.due("longestRun(2)", x.longestRun(2), 3);
        Due.due("longestRun(1)", x.longestRun(1), 2);
        Due.due("longestRun(3)", x.longestRun(3), 0);
        Due.due("longestRun(0)", x.longestRun(0), 0);
        Due.due("longestRun(lowest)", x.longestRun(Integer.MIN_VALUE), 0);
        x.assign(0, 7, 0);
        Due.due("longestRun(0)", x.longestRun(0), 8);
        x.removeLast();
        Due.due("longestRun(0)", x.longestRun(0), 7);
    }

    private static void promise37() {
        LazyRangeTree x = six();
        Due.due("occurrence(7, 0)", x.occurrence(7, 0), 1);
        Due.due("occurrence(7, 1)", x.occurrence(7, 1), 2);
        Due.due("occurrence(7, 2)", x.occurrence(7, 2), 4);
        Due.due("occurrence(7, 3)", x.occurrence(7, 3), -1);
        Due.due("occurrence(7, -1)", x.occurrence(7, -1), -1);
        Due.due("occurrence(7, highest)", x.occurrence(7, Integer.MAX_VALUE), -1);
        Due.due("occurrence(7, lowest)", x.occurrence(7, Integer.MIN_VALUE), -1);
        Due.due("occurrence(0, 0)", x.occurrence(0, 0), 5);
        Due.due("occurrence(0, 1)", x.occurrence(0, 1), -1);
        Due.due("occurrence(99, 0)", x.occurrence(99, 0), -1);
    }

    private static void promise38() {
        LazyRangeTree x = Due.made("sequence -3 5 -4 6 1;");
        Due.due("prefixAtLeast(-3)", x.prefixAtLeast(-3), 0);
        Due.due("prefixAtLeast(-2)", x.prefixAtLeast(-2), 1);
        Due.due("prefixAtLeast(2)", x.prefixAtLeast(2), 1);
        Due.due("prefixAtLeast(3)", x.prefixAtLeast(3), 3);
        Due.due("prefixAtLeast(5)", x.prefixAtLeast(5), 4);
        Due.due("prefixAtLeast(6)", x.prefixAtLeast(6), -1);
        Due.due("prefixAtLeast(lowest)", x.prefixAtLeast(Long.MIN_VALUE), 0);
        Due.due("prefixAtLeast(highest)", x.prefixAtLeast(Long.MAX_VALUE), -1);
        Due.due("prefixAtLeast(2 to the 32nd)", x.prefixAtLeast(1L << 32), -1);
        Due.due("prefixAtLeast(less than every int)", x.prefixAtLeast(-(1L << 32) + 5), 0);
    }

    private static void removedElementsAreNotFound() {
        LazyRangeTree x = Due.made("sequence 3 3 3;append 9;append -9;");
        Due.due("firstAtLeast(0, 9)", x.firstAtLeast(0, 9), 3);
        Due.due("firstBelow(0, 0)", x.firstBelow(0, 0), 4);
        x.removeLast();
        Due.due("firstBelow(0, 0)", x.firstBelow(0, 0), -1);
        Due.due("occurrence(-9, 0)", x.occurrence(-9, 0), -1);
        Due.due("longestRun(-9)", x.longestRun(-9), 0);
        x.removeLast();
        Due.due("firstAtLeast(0, 9)", x.firstAtLeast(0, 9), -1);
        Due.due("lastAtLeast(2, 9)", x.lastAtLeast(2, 9), -1);
        Due.due("occurrence(9, 0)", x.occurrence(9, 0), -1);
        Due.due("longestRun(9)", x.longestRun(9), 0);
        Due.due("prefixAtLeast(10)", x.prefixAtLeast(10), -1);
        Due.due("prefixAtLeast(9)", x.prefixAtLeast(9), 2);
        Due.due("totalIfAssigned(0, 0, 1)", x.totalIfAssigned(0, 0, 1), 7L);
    }

    private static void promise39() {
        LazyRangeTree x = six();
        Due.due("distinctCount(0, 5)", x.distinctCount(0, 5), 4);
        Due.due("distinctCount(1, 2)", x.distinctCount(1, 2), 1);
        Due.due("distinctCount(1, 4)", x.distinctCount(1, 4), 2);
        Due.due("distinctCount(2, 2)", x.distinctCount(2, 2), 1);
        Due.due("distinctCount(2, 5)", x.distinctCount(2, 5), 3);
        Due.dueRangeChecks("distinctCount", 6, (from, to) -> x.distinctCount(from, to));
    }
}
