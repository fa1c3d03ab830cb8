import java.util.NoSuchElementException;

/** What the tests share: each compares an answer, or an exception, with the one that is due. */
final class Due {
    interface Call {
        Object answer();
    }

    private static int asked = 0;
    private static int wrong = 0;

    private Due() {
    }

    static void due(String call, Object got, Object want) {
        asked++;
        if (!got.equals(want)) {
            wrong++;
            System.out.println(call + " answered " + got + ", due is " + want);
        }
    }

    static void dueIndex(String call, Call run) {
        due(call, outcome(run), "throws IndexOutOfBoundsException");
    }

    static void dueArgument(String call, Call run) {
        due(call, outcome(run), "throws IllegalArgumentException");
    }

    static void dueState(String call, Call run) {
        due(call, outcome(run), "throws IllegalStateException");
    }

    static void dueNoSuch(String call, Call run) {
        due(call, outcome(run), "throws NoSuchElementException");
    }

    /** The answer, or the exception's exact name: a subclass (the machine's own) is not due. */
    static Object outcome(Call run) {
        try {
            return run.answer();
        } catch (IndexOutOfBoundsException | IllegalArgumentException
                | IllegalStateException | NoSuchElementException e) {
            return "throws " + e.getClass().getSimpleName();
        }
    }

    interface OfRange {
        Object answer(int from, int to);
    }

    /** The wrong ranges that every call on a range of n elements refuses, in the due order. */
    static void dueRangeChecks(String name, int n, OfRange call) {
        dueIndex(name + "(-1, 0)", () -> call.answer(-1, 0));
        dueIndex(name + "(0, -1)", () -> call.answer(0, -1));
        dueIndex(name + "(0, n)", () -> call.answer(0, n));
        dueIndex(name + "(n, n)", () -> call.answer(n, n));
        dueIndex(name + "(n, 0)", () -> call.answer(n, 0));
        dueIndex(name + "(lowest, highest)", () -> call.answer(Integer.MIN_VALUE, Integer.MAX_VALUE));
        dueIndex(name + "(highest, lowest)", () -> call.answer(Integer.MAX_VALUE, Integer.MIN_VALUE));
        if (n > 1) {
            dueArgument(name + "(1, 0)", () -> call.answer(1, 0));
            dueArgument(name + "(n - 1, 0)", () -> call.answer(n - 1, 0));
            dueArgument(name + "(n - 1, n - 2)", () -> call.answer(n - 1, n - 2));
        }
    }

    /** Puts a text into the input buffer. */
    static void type(LazyRangeTree x, String text) {
        int length = text.length();
        for (int start = 0; start < length; start += 20) {
            int[] words = new int[5];
            for (int i = 0; i < 20; i++) {
                int sign = start + i < length ? text.charAt(start + i) : ' ';
                words[i / 4] = words[i / 4] << 8 | sign;
            }
            due("append at " + start, x.append(words[0], words[1], words[2], words[3], words[4]), start + 20);
        }
        due("truncateInput(" + length + ")", x.truncateInput(length), length);
    }

    static int run(LazyRangeTree x, String text) {
        type(x, text);
        return x.runScript();
    }

    /** A new object on which the script has been run. */
    static LazyRangeTree made(String text) {
        LazyRangeTree x = new LazyRangeTree();
        due("runScript() of " + text, run(x, text) != LazyRangeTree.NONE, true);
        return x;
    }

    /** All elements as a text, by way of element(). */
    static String elements(LazyRangeTree x) {
        StringBuilder all = new StringBuilder();
        for (int i = 0; i < x.elementCount(); i++) {
            all.append(i == 0 ? "" : " ").append(x.element(i));
        }
        return all.toString();
    }

    /** The report as a text, by way of reportByte(). */
    static String report(LazyRangeTree x) {
        StringBuilder all = new StringBuilder();
        for (int i = 0; x.reportByte(i) != LazyRangeTree.NONE; i++) {
            all.append((char) x.reportByte(i));
        }
        return all.toString();
    }

    static void close() {
        System.out.println(asked + " answers, " + wrong + " not as due");
        if (wrong != 0 || asked == 0) {
            System.exit(1);
        }
    }
}
