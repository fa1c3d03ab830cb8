/** Promises 33 to 39, sentence by sentence at their boundaries. */
public final class SearchEdgesTest {
    public static void main(String[] args) {
        all();
        Due.close();
    }

    static void all() {
        toTheRight();
        toTheRightBelow();
        toTheLeft();
        longestRuns();
        occurrences();
        prefixes();
        distinct();
    }

    private static void toTheRight() {
        Edges.of(33, "`from`: the index at which the search begins", () -> {
            LazyRangeTree x = Edges.of(5, 1, 5, 1, 5);
            int[] due = {0, 2, 2, 4, 4};
            for (int from = 0; from < 5; from++) {
                Due.due("firstAtLeast(" + from + ", 5)", x.firstAtLeast(from, 5), due[from]);
            }
            Due.due("firstAtLeast(39, 40)", Edges.ofCount(40).firstAtLeast(39, 40), 39);
            Due.due("firstAtLeast(0, 3) of one element", Edges.of(3).firstAtLeast(0, 3), 0);
        });
        Edges.of(33, "`bound`: any number", () -> {
            LazyRangeTree x = Edges.atTheLimits();
            Due.due("firstAtLeast(0, 1000000)", x.firstAtLeast(0, 1000000), 0);
            Due.due("firstAtLeast(0, 1000001)", x.firstAtLeast(0, 1000001), -1);
            Due.due("firstAtLeast(1, -1000000)", x.firstAtLeast(1, -1000000), 1);
            Due.due("firstAtLeast(1, -999999)", x.firstAtLeast(1, -999999), 2);
            Due.due("firstAtLeast(1, -1000001)", x.firstAtLeast(1, -1000001), 1);
            Due.due("firstAtLeast(1, lowest)", x.firstAtLeast(1, Integer.MIN_VALUE), 1);
            Due.due("firstAtLeast(1, highest)", x.firstAtLeast(1, Integer.MAX_VALUE), -1);
        });
        Edges.of(33, "Returns the smallest index, not before `from`, whose element is at least the bound; NONE if there is none.", () -> {
            LazyRangeTree x = Edges.of(7, 3, 4, 5);
            Due.due("firstAtLeast(1, 3), the bound itself", x.firstAtLeast(1, 3), 1);
            Due.due("firstAtLeast(1, 4)", x.firstAtLeast(1, 4), 2);
            Due.due("firstAtLeast(1, 5), the last element", x.firstAtLeast(1, 5), 3);
            Due.due("firstAtLeast(1, 6), an element before from", x.firstAtLeast(1, 6), -1);
            Due.due("firstAtLeast(0, 7)", x.firstAtLeast(0, 7), 0);
            Due.due("firstAtLeast(0, 8)", x.firstAtLeast(0, 8), -1);
            x.removeLast();
            Due.due("firstAtLeast(1, 5) behind removeLast()", x.firstAtLeast(1, 5), -1);
        });
        Edges.of(33, "Throws `IndexOutOfBoundsException` if `from` is not an index", () ->
                RangeEdgesTest.indexes("firstAtLeast", (x, index) -> x.firstAtLeast(index, 0)));
    }

    private static void toTheRightBelow() {
        Edges.of(34, "`from`: the index at which the search begins", () -> {
            LazyRangeTree x = Edges.of(1, 5, 1, 5, 1);
            int[] due = {0, 2, 2, 4, 4};
            for (int from = 0; from < 5; from++) {
                Due.due("firstBelow(" + from + ", 5)", x.firstBelow(from, 5), due[from]);
            }
            Due.due("firstBelow(39, 41)", Edges.ofCount(40).firstBelow(39, 41), 39);
            Due.due("firstBelow(0, 4) of one element", Edges.of(3).firstBelow(0, 4), 0);
        });
        Edges.of(34, "`bound`: any number", () -> {
            LazyRangeTree x = Edges.atTheLimits();
            Due.due("firstBelow(0, 1000000)", x.firstBelow(0, 1000000), 1);
            Due.due("firstBelow(0, 1000001)", x.firstBelow(0, 1000001), 0);
            Due.due("firstBelow(0, -1000000)", x.firstBelow(0, -1000000), -1);
            Due.due("firstBelow(0, -999999)", x.firstBelow(0, -999999), 1);
            Due.due("firstBelow(0, lowest)", x.firstBelow(0, Integer.MIN_VALUE), -1);
            Due.due("firstBelow(0, highest)", x.firstBelow(0, Integer.MAX_VALUE), 0);
        });
        Edges.of(34, "Returns the smallest index, not before `from`, whose element is less than the bound; NONE if there is none.", () -> {
            LazyRangeTree x = Edges.of(1, 5, 4, 3);
            Due.due("firstBelow(1, 6)", x.firstBelow(1, 6), 1);
            Due.due("firstBelow(1, 5), not the bound itself", x.firstBelow(1, 5), 2);
            Due.due("firstBelow(1, 4), the last element", x.firstBelow(1, 4), 3);
            Due.due("firstBelow(1, 3), an element before from", x.firstBelow(1, 3), -1);
            Due.due("firstBelow(0, 2)", x.firstBelow(0, 2), 0);
            Due.due("firstBelow(0, 1)", x.firstBelow(0, 1), -1);
            x.removeLast();
            Due.due("firstBelow(1, 4) behind removeLast()", x.firstBelow(1, 4), -1);
        });
        Edges.of(34, "Throws `IndexOutOfBoundsException` if `from` is not an index", () ->
                RangeEdgesTest.indexes("firstBelow", (x, index) -> x.firstBelow(index, 0)));
    }

    private static void toTheLeft() {
        Edges.of(35, "`to`: the index at which the search begins", () -> {
            LazyRangeTree x = Edges.of(5, 1, 5, 1, 5);
            int[] due = {0, 0, 2, 2, 4};
            for (int to = 0; to < 5; to++) {
                Due.due("lastAtLeast(" + to + ", 5)", x.lastAtLeast(to, 5), due[to]);
            }
            Due.due("lastAtLeast(39, 40)", Edges.ofCount(40).lastAtLeast(39, 40), 39);
            Due.due("lastAtLeast(0, 3) of one element", Edges.of(3).lastAtLeast(0, 3), 0);
        });
        Edges.of(35, "`bound`: any number", () -> {
            LazyRangeTree x = Edges.atTheLimits();
            Due.due("lastAtLeast(2, 1000000)", x.lastAtLeast(2, 1000000), 0);
            Due.due("lastAtLeast(2, 1000001)", x.lastAtLeast(2, 1000001), -1);
            Due.due("lastAtLeast(1, -1000000)", x.lastAtLeast(1, -1000000), 1);
            Due.due("lastAtLeast(1, -999999)", x.lastAtLeast(1, -999999), 0);
            Due.due("lastAtLeast(1, lowest)", x.lastAtLeast(1, Integer.MIN_VALUE), 1);
            Due.due("lastAtLeast(1, highest)", x.lastAtLeast(1, Integer.MAX_VALUE), -1);
        });
        Edges.of(35, "Returns the greatest index, not behind `to`, whose element is at least the bound; NONE if there is none.", () -> {
            LazyRangeTree x = Edges.of(5, 4, 3, 7);
            Due.due("lastAtLeast(2, 3), the bound itself", x.lastAtLeast(2, 3), 2);
            Due.due("lastAtLeast(2, 4)", x.lastAtLeast(2, 4), 1);
            Due.due("lastAtLeast(2, 5), the first element", x.lastAtLeast(2, 5), 0);
            Due.due("lastAtLeast(2, 6), an element behind to", x.lastAtLeast(2, 6), -1);
            Due.due("lastAtLeast(3, 7)", x.lastAtLeast(3, 7), 3);
            Due.due("lastAtLeast(3, 8)", x.lastAtLeast(3, 8), -1);
        });
        Edges.of(35, "Throws `IndexOutOfBoundsException` if `to` is not an index", () ->
                RangeEdgesTest.indexes("lastAtLeast", (x, index) -> x.lastAtLeast(index, 0)));
    }

    private static void longestRuns() {
        Edges.of(36, "`value`: any number", () -> {
            LazyRangeTree x = Edges.atTheLimits();
            Due.due("longestRun(1000000)", x.longestRun(1000000), 1);
            Due.due("longestRun(-1000000)", x.longestRun(-1000000), 1);
            for (int value : new int[] {1000001, -1000001, Integer.MIN_VALUE, Integer.MAX_VALUE, 999999, 1, -1}) {
                Due.due("longestRun(" + value + ")", x.longestRun(value), 0);
            }
        });
        Edges.of(36, "Returns the greatest length of a run with a given element.", () -> {
            LazyRangeTree x = Edges.of(2, 2, 2, 1, 2, 2, 1, 1, 3);
            Due.due("longestRun(2), the first run", x.longestRun(2), 3);
            Due.due("longestRun(1), the last run", x.longestRun(1), 2);
            Due.due("longestRun(3), at the end", x.longestRun(3), 1);
            x.assign(6, 8, 2);
            Due.due("longestRun(2), at the end", x.longestRun(2), 5);
            x.assign(3, 3, 2);
            Due.due("longestRun(2), the whole sequence", x.longestRun(2), 9);
        });
        Edges.of(36, "Returns the number of its elements; 0 if the element does not occur.", () -> {
            LazyRangeTree x = Edges.ofCount(40);
            Due.due("longestRun(40)", x.longestRun(40), 1);
            Due.due("longestRun(41)", x.longestRun(41), 0);
            Due.due("longestRun(0), which no element is", x.longestRun(0), 0);
            x.assign(0, 39, 0);
            Due.due("longestRun(0), forty of them", x.longestRun(0), 40);
            x.removeLast();
            Due.due("longestRun(0), the removed one is none", x.longestRun(0), 39);
            Due.due("longestRun(0) of one element", Edges.of(0).longestRun(0), 1);
        });
    }

    private static void occurrences() {
        Edges.of(37, "`value`: any number", () -> {
            LazyRangeTree x = Edges.atTheLimits();
            Due.due("occurrence(1000000, 0)", x.occurrence(1000000, 0), 0);
            Due.due("occurrence(-1000000, 0)", x.occurrence(-1000000, 0), 1);
            for (int value : new int[] {1000001, -1000001, Integer.MIN_VALUE, Integer.MAX_VALUE}) {
                Due.due("occurrence(" + value + ", 0)", x.occurrence(value, 0), -1);
            }
        });
        Edges.of(37, "`number`: 0 for the first occurrence, 1 for the next one, and so on", () -> {
            LazyRangeTree x = Edges.of(6, 5, 6, 6, 5);
            Due.due("occurrence(6, 0), at the first index", x.occurrence(6, 0), 0);
            Due.due("occurrence(6, 1)", x.occurrence(6, 1), 2);
            Due.due("occurrence(6, 2)", x.occurrence(6, 2), 3);
            Due.due("occurrence(5, 0)", x.occurrence(5, 0), 1);
            Due.due("occurrence(5, 1), at the last index", x.occurrence(5, 1), 4);
        });
        Edges.of(37, "Returns the index of this occurrence, or NONE if there are not so many.", () -> {
            LazyRangeTree x = Edges.of(6, 5, 6, 6, 5);
            Due.due("occurrence(6, 3)", x.occurrence(6, 3), -1);
            Due.due("occurrence(5, 2)", x.occurrence(5, 2), -1);
            Due.due("occurrence(7, 0)", x.occurrence(7, 0), -1);
            Due.due("occurrence(6, -1)", x.occurrence(6, -1), -1);
            Due.due("occurrence(6, lowest)", x.occurrence(6, Integer.MIN_VALUE), -1);
            Due.due("occurrence(6, highest)", x.occurrence(6, Integer.MAX_VALUE), -1);
            x.removeLast();
            Due.due("occurrence(5, 1) behind removeLast()", x.occurrence(5, 1), -1);
            LazyRangeTree full = Edges.ofCount(40);
            full.assign(0, 39, 3);
            Due.due("occurrence(3, 39)", full.occurrence(3, 39), 39);
            Due.due("occurrence(3, 40)", full.occurrence(3, 40), -1);
        });
    }

    private static void prefixes() {
        Edges.of(38, "`total`: any number", () -> {
            LazyRangeTree x = Edges.of(-4, 3, 5);
            Due.due("prefixAtLeast(lowest)", x.prefixAtLeast(Long.MIN_VALUE), 0);
            Due.due("prefixAtLeast(highest)", x.prefixAtLeast(Long.MAX_VALUE), -1);
            Due.due("prefixAtLeast(2 to the 32nd)", x.prefixAtLeast(1L << 32), -1);
            Due.due("prefixAtLeast(less than every int)", x.prefixAtLeast((long) Integer.MIN_VALUE - 1), 0);
            Due.due("prefixAtLeast(more than every int)", x.prefixAtLeast((long) Integer.MAX_VALUE + 1), -1);
        });
        Edges.of(38, "Returns the smallest index such that the sum of all elements up to and with it is at least the total; NONE if there is none.", () -> {
            LazyRangeTree x = Edges.of(3, -2, 0, 6, -9);
            Due.due("prefixAtLeast(2)", x.prefixAtLeast(2), 0);
            Due.due("prefixAtLeast(3), the first element itself", x.prefixAtLeast(3), 0);
            Due.due("prefixAtLeast(4)", x.prefixAtLeast(4), 3);
            Due.due("prefixAtLeast(7), the greatest sum itself", x.prefixAtLeast(7), 3);
            Due.due("prefixAtLeast(8)", x.prefixAtLeast(8), -1);
            Due.due("prefixAtLeast(-2), a negative total", x.prefixAtLeast(-2), 0);
            LazyRangeTree y = Edges.of(-5, 1, 1, 1);
            Due.due("prefixAtLeast(-5)", y.prefixAtLeast(-5), 0);
            Due.due("prefixAtLeast(-4)", y.prefixAtLeast(-4), 1);
            Due.due("prefixAtLeast(-2), at the last index", y.prefixAtLeast(-2), 3);
            Due.due("prefixAtLeast(-1)", y.prefixAtLeast(-1), -1);
            Due.due("prefixAtLeast(0)", y.prefixAtLeast(0), -1);
            y.removeLast();
            Due.due("prefixAtLeast(-2) behind removeLast()", y.prefixAtLeast(-2), -1);
            LazyRangeTree full = Edges.ofCount(40);
            Due.due("prefixAtLeast(820) of forty", full.prefixAtLeast(820), 39);
            Due.due("prefixAtLeast(821) of forty", full.prefixAtLeast(821), -1);
        });
    }

    private static void distinct() {
        RangeEdges.of(39, "distinctCount", LazyRangeTree::distinctCount, (values, from, to) -> {
            int count = 0;
            for (int i = from; i <= to; i++) {
                boolean seen = false;
                for (int j = from; j < i; j++) {
                    seen = seen || values[j] == values[i];
                }
                count += seen ? 0 : 1;
            }
            return count;
        });
        Edges.of(39, "Returns the number of different elements.", () -> {
            LazyRangeTree x = Edges.of(1, 2, 1, 2, 3);
            Due.due("distinctCount(0, 3), equal ones that are no neighbours", x.distinctCount(0, 3), 2);
            Due.due("distinctCount(0, 4)", x.distinctCount(0, 4), 3);
            Due.due("distinctCount(2, 4), equal ones before the range", x.distinctCount(2, 4), 3);
            Due.due("distinctCount(4, 4)", x.distinctCount(4, 4), 1);
            Due.due("distinctCount(0, 1) of opposites", Edges.atTheLimits().distinctCount(0, 1), 2);
            LazyRangeTree full = Edges.ofCount(40);
            Due.due("distinctCount(0, 39), all different", full.distinctCount(0, 39), 40);
            full.assign(0, 39, 1);
            Due.due("distinctCount(0, 39), all equal", full.distinctCount(0, 39), 1);
        });
    }
}
