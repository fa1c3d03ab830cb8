/** Promises 18 to 32, sentence by sentence at their boundaries. */
public final class RangeEdgesTest {
    public static void main(String[] args) {
        all();
        Due.close();
    }

    static void all() {
        promises18And19();
        sums();
        extremes();
        places();
        counts();
        runs();
        orders();
        steps();
        means();
        shares();
    }

    // ---- what is due, told once more by plain loops

    static long sum(int[] values, int from, int to) {
        long sum = 0;
        for (int i = from; i <= to; i++) {
            sum += values[i];
        }
        return sum;
    }

    static int least(int[] values, int from, int to) {
        int least = Integer.MAX_VALUE;
        for (int i = from; i <= to; i++) {
            least = values[i] < least ? values[i] : least;
        }
        return least;
    }

    static int greatest(int[] values, int from, int to) {
        int greatest = Integer.MIN_VALUE;
        for (int i = from; i <= to; i++) {
            greatest = values[i] > greatest ? values[i] : greatest;
        }
        return greatest;
    }

    private static int first(int[] values, int from, int value) {
        int i = from;
        while (values[i] != value) {
            i++;
        }
        return i;
    }

    private static int count(int[] values, int from, int to, int value) {
        int count = 0;
        for (int i = from; i <= to; i++) {
            count += values[i] == value ? 1 : 0;
        }
        return count;
    }

    /** How many steps from one element of the range to the next one have the sign. */
    private static int stepsOf(int sign, int[] values, int from, int to) {
        int count = 0;
        for (int i = from; i < to; i++) {
            count += Integer.compare(values[i + 1], values[i]) == sign ? 1 : 0;
        }
        return count;
    }

    private static int steepest(int[] values, int from, int to) {
        int steepest = 0;
        for (int i = from; i < to; i++) {
            steepest = Math.max(steepest, Math.abs(values[i + 1] - values[i]));
        }
        return steepest;
    }

    // ---- the promises

    private static void promises18And19() {
        Edges.of(18, "Returns the number of elements.", () -> {
            for (int n : new int[] {1, 2, 39, 40}) {
                Due.due("elementCount()", Edges.ofCount(n).elementCount(), n);
            }
            LazyRangeTree x = Edges.ofCount(39);
            x.appendElement(0);
            Due.due("elementCount() of 40", x.elementCount(), 40);
            Due.dueState("appendElement(0)", () -> x.appendElement(0));
            Due.due("elementCount() behind a refused appendElement()", x.elementCount(), 40);
            LazyRangeTree y = Edges.ofCount(2);
            y.removeLast();
            Due.due("elementCount() of 1", y.elementCount(), 1);
            Due.dueState("removeLast()", () -> y.removeLast());
            Due.due("elementCount() behind a refused removeLast()", y.elementCount(), 1);
            y.undo();
            Due.due("elementCount() behind undo()", y.elementCount(), 2);
        });
        Edges.of(19, "`index`: an index", () -> {
            for (int n : new int[] {1, 2, 40}) {
                LazyRangeTree x = Edges.ofCount(n);
                for (int index = 0; index < n; index++) {
                    Due.due("element(" + index + ")", x.element(index), index + 1);
                }
            }
        });
        Edges.of(19, "Returns the element as it is with all marks applied.", () -> {
            LazyRangeTree x = Edges.ofCount(8);
            x.add(0, 1, 10);
            x.negate(0, 3);
            x.add(0, 7, 100);
            Due.due("elements under three marks, two, and one", Due.elements(x), "89 88 97 96 105 106 107 108");
            Due.due("marks", Due.marks(x), "1:1,100 2:-1,0 4:1,10");
            Due.due("elements at the limits", Due.elements(Edges.atTheLimits()), "1000000 -1000000 0");
        });
        Edges.of(19, "Throws `IndexOutOfBoundsException` if `index` is not an index", () -> indexes("element", LazyRangeTree::element));
    }

    interface OfIndex {
        Object answer(LazyRangeTree x, int index);
    }

    /** The numbers that are no index, with their neighbours that are. */
    static void indexes(String name, OfIndex call) {
        for (int n : new int[] {1, 2, 39, 40}) {
            LazyRangeTree x = Edges.ofCount(n);
            for (int none : new int[] {-1, n, n + 1, -n, Integer.MIN_VALUE, Integer.MAX_VALUE}) {
                Due.dueIndex(name + "(" + none + ") of " + n, () -> call.answer(x, none));
            }
            for (int index : new int[] {0, n - 1}) {
                Due.due(name + "(" + index + ") of " + n + " throws",
                        Due.outcome(() -> call.answer(x, index)).toString().startsWith("throws"), false);
            }
        }
        LazyRangeTree x = Edges.ofCount(3);
        x.removeLast();
        Due.dueIndex(name + "(2) behind removeLast()", () -> call.answer(x, 2));
        x.undo();
        Due.due(name + "(2) behind undo() throws", Due.outcome(() -> call.answer(x, 2)).toString().startsWith("throws"), false);
        Due.dueIndex(name + "(3) behind undo()", () -> call.answer(x, 3));
    }

    private static LazyRangeTree fortyAtTheLimit(boolean negative) {
        LazyRangeTree x = Due.made("sequence 0;repeat 13(append 0;append 0;append 0;);repeat 10(repeat 10(add 0 39 9999;););add 0 39 100;");
        if (negative) {
            x.negate(0, 39);
        }
        return x;
    }

    private static void sums() {
        RangeEdges.of(20, "sum", LazyRangeTree::sum, RangeEdgesTest::sum);
        Edges.of(20, "Returns the sum.", () -> {
            Due.due("the greatest sum", fortyAtTheLimit(false).sum(0, 39), 40000000L);
            Due.due("the least sum", fortyAtTheLimit(true).sum(0, 39), -40000000L);
            Due.due("a sum of opposites", Edges.atTheLimits().sum(0, 1), 0L);
        });
    }

    private static void extremes() {
        RangeEdges.of(21, "least", LazyRangeTree::least, RangeEdgesTest::least);
        RangeEdges.of(22, "greatest", LazyRangeTree::greatest, RangeEdgesTest::greatest);
        Edges.of(21, "Returns the least element.", () -> {
            Due.due("least(0, 2)", Edges.atTheLimits().least(0, 2), -1000000);
            Due.due("least(0, 0)", Edges.atTheLimits().least(0, 0), 1000000);
            Due.due("least(0, 39) at the upper limit", fortyAtTheLimit(false).least(0, 39), 1000000);
        });
        Edges.of(22, "Returns the greatest element.", () -> {
            Due.due("greatest(0, 2)", Edges.atTheLimits().greatest(0, 2), 1000000);
            Due.due("greatest(1, 1)", Edges.atTheLimits().greatest(1, 1), -1000000);
            Due.due("greatest(0, 39) at the lower limit", fortyAtTheLimit(true).greatest(0, 39), -1000000);
        });
    }

    private static void places() {
        RangeEdges.of(23, "firstLeast", LazyRangeTree::firstLeast, (v, from, to) -> first(v, from, least(v, from, to)));
        RangeEdges.of(24, "firstGreatest", LazyRangeTree::firstGreatest, (v, from, to) -> first(v, from, greatest(v, from, to)));
        Edges.of(23, "Returns the smallest index of the range at which the element is the least one.", () -> {
            LazyRangeTree x = Edges.of(1, 2, 1, 1, 2);
            Due.due("firstLeast(0, 4), the least one at from", x.firstLeast(0, 4), 0);
            Due.due("firstLeast(1, 4), a smaller index before from", x.firstLeast(1, 4), 2);
            Due.due("firstLeast(1, 2), the least one at to", x.firstLeast(1, 2), 2);
            Due.due("firstLeast(1, 1)", x.firstLeast(1, 1), 1);
            x.assign(0, 4, 6);
            Due.due("firstLeast(1, 4) of equal elements", x.firstLeast(1, 4), 1);
            Due.due("firstLeast(38, 39)", Edges.ofCount(40).firstLeast(38, 39), 38);
        });
        Edges.of(24, "Returns the smallest index of the range at which the element is the greatest one.", () -> {
            LazyRangeTree x = Edges.of(2, 1, 2, 2, 1);
            Due.due("firstGreatest(0, 4), the greatest one at from", x.firstGreatest(0, 4), 0);
            Due.due("firstGreatest(1, 4), a smaller index before from", x.firstGreatest(1, 4), 2);
            Due.due("firstGreatest(1, 2), the greatest one at to", x.firstGreatest(1, 2), 2);
            Due.due("firstGreatest(1, 1)", x.firstGreatest(1, 1), 1);
            x.assign(0, 4, 6);
            Due.due("firstGreatest(1, 4) of equal elements", x.firstGreatest(1, 4), 1);
            Due.due("firstGreatest(0, 39)", Edges.ofCount(40).firstGreatest(0, 39), 39);
        });
    }

    private static void counts() {
        RangeEdges.of(25, "leastCount", LazyRangeTree::leastCount, (v, from, to) -> count(v, from, to, least(v, from, to)));
        RangeEdges.of(26, "greatestCount", LazyRangeTree::greatestCount, (v, from, to) -> count(v, from, to, greatest(v, from, to)));
        Edges.of(25, "Returns the number of indexes of the range at which the element is the least one.", () -> {
            LazyRangeTree x = Edges.of(1, 2, 1, 2, 1);
            Due.due("leastCount(0, 4), at both ends", x.leastCount(0, 4), 3);
            Due.due("leastCount(1, 3), both ends left out", x.leastCount(1, 3), 1);
            Due.due("leastCount(1, 1)", x.leastCount(1, 1), 1);
            Due.due("leastCount(0, 39) of equal elements", fortyAtTheLimit(true).leastCount(0, 39), 40);
        });
        Edges.of(26, "Returns the number of indexes of the range at which the element is the greatest one.", () -> {
            LazyRangeTree x = Edges.of(2, 1, 2, 1, 2);
            Due.due("greatestCount(0, 4), at both ends", x.greatestCount(0, 4), 3);
            Due.due("greatestCount(1, 3), both ends left out", x.greatestCount(1, 3), 1);
            Due.due("greatestCount(1, 1)", x.greatestCount(1, 1), 1);
            Due.due("greatestCount(0, 39) of equal elements", fortyAtTheLimit(false).greatestCount(0, 39), 40);
        });
    }

    private static void runs() {
        RangeEdges.of(27, "runCount", LazyRangeTree::runCount, (v, from, to) -> 1 + stepsOf(1, v, from, to) + stepsOf(-1, v, from, to));
        Edges.of(27, "A run is a maximal sequence of neighbouring equal elements.", () -> {
            LazyRangeTree x = Edges.of(5, 5, 4, 5, 5);
            Due.due("runCount(0, 4), equal runs that are no neighbours", x.runCount(0, 4), 3);
            Due.due("runCount(1, 3), runs cut at both ends", x.runCount(1, 3), 3);
            Due.due("runCount(0, 1)", x.runCount(0, 1), 1);
            Due.due("runCount(1, 2)", x.runCount(1, 2), 2);
            Due.due("runCount(2, 2)", x.runCount(2, 2), 1);
            x.assign(2, 2, 5);
            Due.due("runCount(0, 4) of equal elements", x.runCount(0, 4), 1);
            Due.due("runCount(0, 39)", Edges.ofCount(40).runCount(0, 39), 40);
            Due.due("runCount(0, 39) of equal elements", fortyAtTheLimit(false).runCount(0, 39), 1);
        });
        Edges.of(27, "Returns the number of runs.", () -> Due.due("runCount(0, 1)", Edges.atTheLimits().runCount(0, 1), 2));
    }

    private static void orders() {
        RangeEdges.of(28, "isAscending", LazyRangeTree::isAscending, (v, from, to) -> stepsOf(-1, v, from, to) == 0);
        RangeEdges.of(29, "isDescending", LazyRangeTree::isDescending, (v, from, to) -> stepsOf(1, v, from, to) == 0);
        Edges.of(28, "Returns whether no element of the range is greater than the next one of the range.", () -> {
            LazyRangeTree x = Edges.of(9, 1, 1, 2, 2, 0);
            Due.due("isAscending(1, 4), equal neighbours", x.isAscending(1, 4), true);
            Due.due("isAscending(0, 4), the first one greater", x.isAscending(0, 4), false);
            Due.due("isAscending(1, 5), the last one less", x.isAscending(1, 5), false);
            Due.due("isAscending(0, 0), the next one is not of the range", x.isAscending(0, 0), true);
            Due.due("isAscending(5, 5)", x.isAscending(5, 5), true);
            Due.due("isAscending(0, 1) of 6 5", Edges.of(6, 5).isAscending(0, 1), false);
            Due.due("isAscending(0, 1) of 5 5", Edges.of(5, 5).isAscending(0, 1), true);
            Due.due("isAscending(0, 1) of 5 6", Edges.of(5, 6).isAscending(0, 1), true);
            Due.due("isAscending(0, 39)", Edges.ofCount(40).isAscending(0, 39), true);
        });
        Edges.of(29, "Returns whether no element of the range is less than the next one of the range.", () -> {
            LazyRangeTree x = Edges.of(0, 2, 2, 1, 1, 9);
            Due.due("isDescending(1, 4), equal neighbours", x.isDescending(1, 4), true);
            Due.due("isDescending(0, 4), the first one less", x.isDescending(0, 4), false);
            Due.due("isDescending(1, 5), the last one greater", x.isDescending(1, 5), false);
            Due.due("isDescending(0, 0), the next one is not of the range", x.isDescending(0, 0), true);
            Due.due("isDescending(5, 5)", x.isDescending(5, 5), true);
            Due.due("isDescending(0, 1) of 6 5", Edges.of(6, 5).isDescending(0, 1), true);
            Due.due("isDescending(0, 1) of 5 5", Edges.of(5, 5).isDescending(0, 1), true);
            Due.due("isDescending(0, 1) of 5 6", Edges.of(5, 6).isDescending(0, 1), false);
            Due.due("isDescending(0, 39)", Edges.ofCount(40).isDescending(0, 39), false);
        });
    }

    private static void steps() {
        RangeEdges.of(30, "steepestStep", LazyRangeTree::steepestStep, RangeEdgesTest::steepest);
        Edges.of(30, "Returns the greatest difference, without its sign, of two neighbouring elements of a range.", () -> {
            LazyRangeTree x = Edges.of(0, 3, 3, -1, 5);
            Due.due("steepestStep(0, 3), downwards", x.steepestStep(0, 3), 4);
            Due.due("steepestStep(2, 4), upwards", x.steepestStep(2, 4), 6);
            Due.due("steepestStep(0, 1)", x.steepestStep(0, 1), 3);
            Due.due("steepestStep(0, 2), not of elements that are no neighbours", x.steepestStep(0, 2), 3);
            Due.due("steepestStep(0, 1) at the limits", Edges.atTheLimits().steepestStep(0, 1), 2000000);
            Due.due("steepestStep(1, 2) at the limits", Edges.atTheLimits().steepestStep(1, 2), 1000000);
        });
        Edges.of(30, "Returns the difference; 0 for a range of one index.", () -> {
            LazyRangeTree x = Edges.of(7, -7, -7);
            Due.due("steepestStep(0, 0)", x.steepestStep(0, 0), 0);
            Due.due("steepestStep(2, 2)", x.steepestStep(2, 2), 0);
            Due.due("steepestStep(1, 2) of equal elements", x.steepestStep(1, 2), 0);
            Due.due("steepestStep(0, 1)", x.steepestStep(0, 1), 14);
            Due.due("steepestStep(0, 0) of one element", Edges.of(-9).steepestStep(0, 0), 0);
        });
    }

    private static void means() {
        RangeEdges.of(31, "mean", LazyRangeTree::mean, (v, from, to) -> (double) sum(v, from, to) / (double) (to - from + 1));
        Edges.of(31, "Returns the sum divided by the number of elements, both converted to double.", () -> {
            LazyRangeTree x = Edges.of(1, 1, 0, -1, -1);
            Due.due("mean(0, 2), not rounded", x.mean(0, 2), 2.0 / 3.0);
            Due.due("mean(2, 4), not rounded", x.mean(2, 4), -2.0 / 3.0);
            Due.due("mean(0, 4) of a sum 0", x.mean(0, 4), 0.0);
            Due.due("mean(2, 2)", x.mean(2, 2), 0.0);
            Due.due("mean(1, 2)", x.mean(1, 2), 0.5);
            Due.due("mean(0, 39) at the limit", fortyAtTheLimit(false).mean(0, 39), 1000000.0);
            Due.due("mean(0, 0) at the limit", Edges.atTheLimits().mean(0, 0), 1000000.0);
            LazyRangeTree far = fortyAtTheLimit(false);
            far.add(0, 0, -1);
            Due.due("mean(0, 38), finer than a float", far.mean(0, 38), 38999999.0 / 39.0);
        });
    }

    private static void shares() {
        RangeEdges.of(32, "greatestShare", LazyRangeTree::greatestShare,
                (v, from, to) -> (float) count(v, from, to, greatest(v, from, to)) / (float) (to - from + 1));
        Edges.of(32, "Returns greatestCount() divided by the number of elements of the range, both converted to float.", () -> {
            LazyRangeTree x = Edges.of(3, 1, 3, 1, 1);
            Due.due("greatestShare(0, 2)", x.greatestShare(0, 2), 2f / 3f);
            Due.due("greatestShare(1, 3)", x.greatestShare(1, 3), 1f / 3f);
            Due.due("greatestShare(3, 4), all equal", x.greatestShare(3, 4), 1f);
            Due.due("greatestShare(1, 1)", x.greatestShare(1, 1), 1f);
            Due.due("greatestShare(0, 39)", Edges.ofCount(40).greatestShare(0, 39), 1f / 40f);
            Due.due("greatestShare(0, 39) of equal elements", fortyAtTheLimit(false).greatestShare(0, 39), 1f);
        });
    }
}
