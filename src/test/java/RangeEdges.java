/** The sentences that all calls on a range share. */
final class RangeEdges {
    interface Call {
        Object answer(LazyRangeTree x, int from, int to);
    }

    interface Wanted {
        Object of(int[] values, int from, int to);
    }

    private static final int[][] SEQUENCES = {{4}, {-2, 5}, {3, -1, 3, -1, 2}, {0, 0, 7, 7, 7, -7, 0, 9, 8, 9}};

    private RangeEdges() {
    }

    static void of(int promise, String name, Call call, Wanted wanted) {
        Edges.of(promise, "`from`: the first index of the range", () -> from(name, call, wanted));
        Edges.of(promise, "`to`: the last index of the range, not before the first one", () -> to(name, call, wanted));
        Edges.of(promise, "Throws `IndexOutOfBoundsException` if `from` or `to` is not an index", () -> {
            notAnIndex(name, call);
            noLongerAnIndex(name, call);
        });
        Edges.of(promise, "Throws `IllegalArgumentException` if `to` is before `from`", () -> before(name, call));
        Edges.of(Edges.TERMS, "If several exceptions apply to a call, the one that is listed first is thrown.",
                () -> bothApply(name, call));
        Edges.of(Edges.TERMS, "A call that throws an exception changes nothing.", () -> refusedChangesNothing(name, call));
    }

    // Each sequence once as it is built, once under a mark of the root, and once under marks of other nodes.
    private static LazyRangeTree made(int[] values, int way) {
        int n = values.length;
        int[] start = values.clone();
        String updates = "";
        if (way == 1) {
            for (int i = 0; i < n; i++) {
                start[i] = -values[i];
            }
            updates = "negate 0 " + (n - 1) + ";";
        } else if (way == 2) {
            for (int i = 0; i < n; i++) {
                start[i] = values[i] - (i >= n / 2 ? 3 : -2);
            }
            updates = "add " + n / 2 + " " + (n - 1) + " 3;" + (n > 1 ? "add 0 " + (n / 2 - 1) + " -2;" : "");
        }
        return Due.made(Edges.script(start) + updates);
    }

    private static void asks(String name, Call call, Wanted wanted, int[] values, int from, int to) {
        for (int way = 0; way < 3; way++) {
            LazyRangeTree x = made(values, way);
            Due.due(name + "(" + from + ", " + to + ") of " + Edges.text(values), Due.outcome(() -> call.answer(x, from, to)),
                    wanted.of(values, from, to));
        }
    }

    private static void from(String name, Call call, Wanted wanted) {
        for (int[] values : SEQUENCES) {
            for (int from = 0; from < values.length; from++) {
                asks(name, call, wanted, values, from, values.length - 1);
            }
        }
    }

    private static void to(String name, Call call, Wanted wanted) {
        for (int[] values : SEQUENCES) {
            for (int from = 0; from < values.length; from++) {
                for (int to = from; to < values.length; to++) {
                    asks(name, call, wanted, values, from, to);
                }
            }
        }
    }

    private static boolean refuses(LazyRangeTree x, Call call, int from, int to) {
        return Due.outcome(() -> call.answer(x, from, to)).toString().startsWith("throws ");
    }

    private static void notAnIndex(String name, Call call) {
        for (int n : new int[] {1, 2, 5, 40}) {
            LazyRangeTree x = Edges.ofCount(n);
            int[][] wrong = {{-1, 0}, {-1, n - 1}, {-1, -1}, {0, n}, {n - 1, n}, {n, n}, {n, n - 1}, {0, -1}, {n - 1, -1}, {-1, n},
                {n, -1}, {Integer.MIN_VALUE, 0}, {0, Integer.MAX_VALUE}, {Integer.MAX_VALUE, 0}, {0, Integer.MIN_VALUE},
                {Integer.MIN_VALUE, Integer.MAX_VALUE}};
            for (int[] range : wrong) {
                Due.dueIndex(name + "(" + range[0] + ", " + range[1] + ") of " + n, () -> call.answer(x, range[0], range[1]));
            }
            for (int[] range : new int[][] {{0, 0}, {0, n - 1}, {n - 1, n - 1}}) {
                Due.due(name + "(" + range[0] + ", " + range[1] + ") of " + n + " throws", refuses(x, call, range[0], range[1]), false);
            }
        }
    }

    private static void noLongerAnIndex(String name, Call call) {
        LazyRangeTree x = Edges.ofCount(3);
        x.removeLast();
        Due.dueIndex(name + " behind removeLast()", () -> call.answer(x, 0, 2));
        Due.due(name + " behind removeLast() throws", refuses(x, call, 0, 1), false);
        x.appendElement(1);
        x.appendElement(1);
        Due.due(name + " behind appendElement() throws", refuses(x, call, 3, 3), false);
        Due.dueIndex(name + " behind appendElement()", () -> call.answer(x, 3, 4));
        x.undo();
        Due.due(name + " behind undo() throws", refuses(x, call, 0, 2), false);
    }

    private static void before(String name, Call call) {
        for (int n : new int[] {2, 5, 40}) {
            LazyRangeTree x = Edges.ofCount(n);
            for (int[] range : new int[][] {{1, 0}, {n - 1, 0}, {n - 1, n - 2}}) {
                Due.dueArgument(name + "(" + range[0] + ", " + range[1] + ") of " + n, () -> call.answer(x, range[0], range[1]));
            }
            for (int[] range : new int[][] {{0, 0}, {1, 1}, {0, 1}, {n - 2, n - 1}, {n - 1, n - 1}}) {
                Due.due(name + "(" + range[0] + ", " + range[1] + ") of " + n + " throws", refuses(x, call, range[0], range[1]), false);
            }
        }
    }

    private static void bothApply(String name, Call call) {
        LazyRangeTree x = Edges.ofCount(5);
        int[][] wrong = {{5, 4}, {5, 0}, {0, -1}, {4, -1}, {-1, -2}, {6, 5}, {Integer.MAX_VALUE, Integer.MIN_VALUE}};
        for (int[] range : wrong) {
            Due.dueIndex(name + "(" + range[0] + ", " + range[1] + ") of 5", () -> call.answer(x, range[0], range[1]));
        }
    }

    private static void refusedChangesNothing(String name, Call call) {
        LazyRangeTree x = Due.made("sequence 1 2 3 4;add 0 1 5;negate 0 3;");
        x.writeRange(1, 2);
        String before = Due.state(x);
        int undos = x.undoCount();
        for (int[] range : new int[][] {{-1, 0}, {0, 4}, {1, 0}, {3, 2}, {4, 4}}) {
            Due.due(name + "(" + range[0] + ", " + range[1] + ") throws", refuses(x, call, range[0], range[1]), true);
        }
        Due.due("all behind refused " + name + "()", Due.state(x), before);
        Due.due("undoCount() behind refused " + name + "()", x.undoCount(), undos);
        Due.due("report behind refused " + name + "()", Due.report(x), "-7,-3");
    }
}
