import java.nio.ByteBuffer;
import java.nio.charset.StandardCharsets;
import java.util.Arrays;

/** The example of README.md: behind each print stands the answer. */
public final class Example {
    public static void main(String[] args) {
        LazyRangeTree tree = new LazyRangeTree();    // -4 1 -8 -7 -7 6 2 5 10 -5

        // Questions: a range is given by its first and its last index.
        System.out.println(tree.sum(0, 9));          // -7
        System.out.println(tree.least(3, 6));        // -7
        System.out.println(tree.firstAtLeast(0, 6)); // 5
        System.out.println(tree.occurrence(99, 0));  // -1, which is NONE: there is no such element
        System.out.println(tree.markOffset(1));      // 1, still to be added to all elements

        // Changes: an update answers to how many nodes its mark was applied.
        System.out.println(tree.add(0, 5, 10));      // 2, the nodes 2 and 24: 6 11 2 3 3 16 2 5 10 -5
        System.out.println(tree.sum(0, 9));          // 53
        System.out.println(tree.markOffset(1));      // 0, as the mark was pushed down
        System.out.println(tree.undo());             // 0, the number of changes that can still be undone
        System.out.println(tree.sum(0, 9));          // -7

        // A call that can't be answered throws the exception that the document names, and changes nothing.
        try {
            tree.element(10);
        } catch (IndexOutOfBoundsException e) {
            System.out.println("no index");          // no index
        }

        // A script replaces everything, unless it has an error.
        type(tree, "sequence 3 1 -2; repeat 2 (add 0 1 5; negate 2 2;);");
        System.out.println(tree.runScript());        // 3, the number of elements
        System.out.println(tree.element(0));         // 13
        type(tree, "sequence 3 1; push 9;");
        System.out.println(tree.runScript());        // -1
        System.out.println(tree.scriptErrorKind());  // 2, as there is no node 9
        System.out.println(tree.scriptErrorOffset()); // 19
        System.out.println(tree.elementCount());     // 3

        // The report is written, and then read byte by byte.
        int length = tree.writeRange(0, 2);
        StringBuilder report = new StringBuilder();
        for (int i = 0; i < length; i++) {
            report.append((char) tree.reportByte(i));
        }
        System.out.println(report);                  // 13,11,-2
    }

    /** Puts a text into the input buffer, which is empty: 20 bytes a call, then cut to its length. */
    private static void type(LazyRangeTree tree, String text) {
        byte[] bytes = text.getBytes(StandardCharsets.ISO_8859_1);
        ByteBuffer words = ByteBuffer.wrap(Arrays.copyOf(bytes, (bytes.length + 19) / 20 * 20));
        while (words.hasRemaining()) {
            tree.append(words.getInt(), words.getInt(), words.getInt(), words.getInt(), words.getInt());
        }
        tree.truncateInput(bytes.length);
    }
}
