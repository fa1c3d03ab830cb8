import java.util.ArrayList;
import java.util.List;

/** A test for each sentence that names a boundary case: the sentence is quoted as the document has it. */
final class Edges {
    /** Stands for the document's "Terms" where the others have the number of a promise. */
    static final int TERMS = 0;

    private static final List<String> QUOTES = new ArrayList<>();

    private Edges() {
    }

    static void of(int promise, String words, Runnable test) {
        QUOTES.add(promise + " " + words);
        int askedBefore = Due.asked();
        int wrongBefore = Due.wrong();
        try {
            test.run();
        } catch (RuntimeException e) {
            Due.due("a call of the test", "threw " + e, "no exception");
        }
        if (Due.asked() == askedBefore) {
            Due.due("the answers asked for", 0, "one at least");
        }
        if (Due.wrong() > wrongBefore) {
            System.out.println("    ^ " + (promise == TERMS ? "Terms" : "promise " + promise) + ": " + words);
        }
    }

    /** The quotes so far, each behind its promise's number. */
    static List<String> quotes() {
        return QUOTES;
    }

    // ---- what the tests make their objects of

    /** A tree of the values, all marks empty and all counters 0. */
    static LazyRangeTree of(int... values) {
        return Due.made(script(values));
    }

    static String script(int... values) {
        StringBuilder text = new StringBuilder("sequence");
        for (int value : values) {
            text.append(' ').append(value);
        }
        return text.append(';').toString();
    }

    /** The values 1, 2, and so on. */
    static int[] upTo(int count) {
        int[] values = new int[count];
        for (int i = 0; i < count; i++) {
            values[i] = i + 1;
        }
        return values;
    }

    static LazyRangeTree ofCount(int count) {
        return of(upTo(count));
    }

    /** The elements 1000000, -1000000 and 0. */
    static LazyRangeTree atTheLimits() {
        return Due.made("sequence 9999 9999 0;repeat 11(repeat 9(add 0 1 9999;););add 0 1 100;negate 1 1;");
    }

    static String text(int... values) {
        StringBuilder all = new StringBuilder();
        for (int i = 0; i < values.length; i++) {
            all.append(i == 0 ? "" : " ").append(values[i]);
        }
        return all.toString();
    }

    // ---- what is due of the tree, told from the document's own words

    /** The nodes to which an update's mark is applied, the left ones first. */
    static List<Integer> applied(int count, int from, int to) {
        List<Integer> nodes = new ArrayList<>();
        walk(1, 0, count - 1, from, to, nodes, new ArrayList<>());
        return nodes;
    }

    /** The nodes at which an update arrives. */
    static List<Integer> visited(int count, int from, int to) {
        List<Integer> nodes = new ArrayList<>();
        walk(1, 0, count - 1, from, to, new ArrayList<>(), nodes);
        return nodes;
    }

    private static void walk(int node, int a, int b, int from, int to, List<Integer> applied, List<Integer> visited) {
        visited.add(node);
        if (from <= a && b <= to) {
            applied.add(node);
            return;
        }
        int m = (a + b) / 2;
        if (from <= m) {
            walk(2 * node, a, m, from, to, applied, visited);
        }
        if (to > m) {
            walk(2 * node + 1, m + 1, b, from, to, applied, visited);
        }
    }

    /** For each node its first and last index, or null for a number without a node. */
    static int[][] nodes(int count) {
        int[][] nodes = new int[256][];
        spread(nodes, 1, 0, count - 1);
        return nodes;
    }

    private static void spread(int[][] nodes, int node, int a, int b) {
        nodes[node] = new int[] {a, b};
        if (a < b) {
            int m = (a + b) / 2;
            spread(nodes, 2 * node, a, m);
            spread(nodes, 2 * node + 1, m + 1, b);
        }
    }
}
