import java.util.NoSuchElementException;

/** What the tests share: each compares an answer, or an exception, with the one that is due. */
final class Due {
    interface Call {
        Object answer();
    }

    private static int asked = 0;
    private static int wrong = 0;

    private Due() {
    }

    static void due(String call, Object got, Object want) {
        asked++;
        if (!got.equals(want)) {
            wrong++;
            System.out.println(call + " answered " + got + ", due is " + want);
        }
    }

    static int asked() {
        return asked;
    }

    static int wrong() {
        return wrong;
    }

    static void dueIndex(String call, Call run) {
        due(call, outcome(run), "throws IndexOutOfBoundsException");
    }

    static void dueArgument(String call, Call run) {
        due(call, outcome(run), "throws IllegalArgumentException");
    }

    static void dueState(String call, Call run) {
        due(call, outcome(run), "throws IllegalStateException");
    }

    static void dueNoSuch(String call, Call run) {
        due(call, outcome(run), "throws NoSuchElementException");
    }

    /** The answer, or the exception's exact name: a subclass (the machine's own) is not due. */
    static Object outcome(Call run) {
        try {
            return run.answer();
        } catch (IndexOutOfBoundsException | IllegalArgumentException
                | IllegalStateException | NoSuchElementException e) {
            return "throws " + e.getClass().getSimpleName();
        }
    }

    interface OfRange {
        Object answer(int from, int to);
    }

    /** The wrong ranges that every call on a range of n elements refuses, in the due order. */
    static void dueRangeChecks(String name, int n, OfRange call) {
        dueIndex(name + "(-1, 0)", () -> call.answer(-1, 0));
        dueIndex(name + "(0, -1)", () -> call.answer(0, -1));
        dueIndex(name + "(0, n)", () -> call.answer(0, n));
        dueIndex(name + "(n, n)", () -> call.answer(n, n));
        dueIndex(name + "(n, 0)", () -> call.answer(n, 0));
        dueIndex(name + "(lowest, highest)", () -> call.answer(Integer.MIN_VALUE, Integer.MAX_VALUE));
        dueIndex(name + "(highest, lowest)", () -> call.answer(Integer.MAX_VALUE, Integer.MIN_VALUE));
        if (n > 1) {
            dueArgument(name + "(1, 0)", () -> call.answer(1, 0));
            dueArgument(name + "(n - 1, 0)", () -> call.answer(n - 1, 0));
            dueArgument(name + "(n - 1, n - 2)", () -> call.answer(n - 1, n - 2));
        }
    }

    /** Puts a text into the input buffer. */
    static void type(LazyRangeTree x, String text) {
        int length = text.length();
        for (int start = 0; start < length; start += 20) {
            int[] words = new int[5];
            for (int i = 0; i < 20; i++) {
                int sign = start + i < length ? text.charAt(start + i) : ' ';
                words[i / 4] = words[i / 4] << 8 | sign;
            }
            due("append at " + start, x.append(words[0], words[1], words[2], words[3], words[4]), start + 20);
        }
        due("truncateInput(" + length + ")", x.truncateInput(length), length);
    }

    static int run(LazyRangeTree x, String text) {
        type(x, text);
        return x.runScript();
    }

    /** A new object on which the script has been run. */
    static LazyRangeTree made(String text) {
        LazyRangeTree x = new LazyRangeTree();
        due("runScript() of " + text, run(x, text) != LazyRangeTree.NONE, true);
        return x;
    }

    /** All elements as a text, by way of element(). */
    static String elements(LazyRangeTree x) {
        StringBuilder all = new StringBuilder();
        for (int i = 0; i < x.elementCount(); i++) {
            all.append(i == 0 ? "" : " ").append(x.element(i));
        }
        return all.toString();
    }

    /** What can be asked of the elements, the nodes, the marks and the counters: all that undo restores. */
    static String state(LazyRangeTree x) {
        StringBuilder all = new StringBuilder(elements(x));
        int left = x.nodeCount();
        for (int node = 1; left > 0 && node < 128; node++) {
            int number = node;
            if (outcome(() -> x.isLeaf(number)) instanceof Boolean) {
                left--;
                all.append("; ").append(node).append(' ').append(x.firstIndex(node)).append(' ').append(x.lastIndex(node))
                        .append(' ').append(x.storedSum(node)).append(' ').append(x.storedLeast(node))
                        .append(' ').append(x.storedGreatest(node)).append(' ').append(x.markFactor(node))
                        .append(' ').append(x.markOffset(node));
            }
        }
        return all.append("; ").append(x.updateCount()).append(' ').append(x.pushCount())
                .append(' ').append(x.appliedCount()).toString();
    }

    /** The marks that are not empty, as NODE:FACTOR,OFFSET. */
    static String marks(LazyRangeTree x) {
        StringBuilder all = new StringBuilder();
        int left = x.nodeCount();
        for (int node = 1; left > 0 && node < 128; node++) {
            int number = node;
            if (outcome(() -> x.markFactor(number)) instanceof Integer) {
                left--;
                if (x.markFactor(node) != 1 || x.markOffset(node) != 0) {
                    all.append(all.length() == 0 ? "" : " ").append(node).append(':')
                            .append(x.markFactor(node)).append(',').append(x.markOffset(node));
                }
            }
        }
        return all.toString();
    }

    /** The report as a text, by way of reportByte(). */
    static String report(LazyRangeTree x) {
        StringBuilder all = new StringBuilder();
        int next = x.reportByte(0);
        while (next != LazyRangeTree.NONE && all.length() < 1000) {
            all.append((char) next);
            next = x.reportByte(all.length());
        }
        return all.toString();
    }

    static void close() {
        System.out.println(asked + " answers, " + wrong + " not as due");
        if (wrong != 0 || asked == 0) {
            System.exit(1);
        }
    }
}
