/** Promises 1 to 3, sentence by sentence at their boundaries. */
public final class InputEdgesTest {
    private static final int BLANKS = 0x20202020;

    public static void main(String[] args) {
        all();
        Due.close();
    }

    static void all() {
        promise1();
        promise2Bytes();
        promise2Limit();
        promise3();
    }

    private static int blanks(LazyRangeTree x) {
        return x.append(BLANKS, BLANKS, BLANKS, BLANKS, BLANKS);
    }

    /** An object with so many blanks in its input buffer; the lengths asked for are no multiples of 20. */
    private static LazyRangeTree filled(int length) {
        LazyRangeTree x = new LazyRangeTree();
        for (int filled = 0; filled < length; filled += 20) {
            blanks(x);
        }
        x.truncateInput(length);
        return x;
    }

    /** The length can be seen from what truncateInput() takes. */
    private static void dueLength(String where, LazyRangeTree x, int length) {
        Due.dueArgument(where + ": truncateInput(" + (length + 1) + ")", () -> x.truncateInput(length + 1));
        Due.due(where + ": truncateInput(" + length + ")", Due.outcome(() -> x.truncateInput(length)), length);
    }

    private static void promise1() {
        Edges.of(1, "Creates a tree as by the script \"sequence 5 -2 7 7 0 3 -1 4 9 -6; add 1 6 2; assign 3 4 8; negate 0 4; add 0 9 1;\".", () -> {
            LazyRangeTree made = Due.made("sequence 5 -2 7 7 0 3 -1 4 9 -6; add 1 6 2; assign 3 4 8; negate 0 4; add 0 9 1;");
            Due.due("all of a new object", Due.state(new LazyRangeTree()), Due.state(made));
            LazyRangeTree x = new LazyRangeTree();
            Due.due("elements", Due.elements(x), "-4 1 -8 -7 -7 6 2 5 10 -5");
            Due.due("marks", Due.marks(x), "1:1,1 2:-1,0 5:0,8 12:1,2");
        });
        Edges.of(1, "The input buffer and the report are empty, no snapshot is saved, and nothing can be undone.", () -> {
            LazyRangeTree x = new LazyRangeTree();
            dueLength("a new object", x, 0);
            Due.due("reportByte(0)", x.reportByte(0), -1);
            Due.dueNoSuch("restoreSnapshot()", x::restoreSnapshot);
            Due.due("undoCount()", x.undoCount(), 0);
            String before = Due.state(x);
            Due.due("undo()", x.undo(), -1);
            Due.due("all behind undo() of nothing", Due.state(x), before);
            Due.due("the first append()", blanks(x), 20);
        });
        Edges.of(1, "The input buffer and the report are empty, no snapshot is saved, and nothing can be undone.", () -> {
            LazyRangeTree used = new LazyRangeTree();
            blanks(used);
            used.writeRange(0, 9);
            used.saveSnapshot();
            used.assign(0, 9, 3);
            LazyRangeTree x = new LazyRangeTree();
            dueLength("a new object beside a used one", x, 0);
            Due.due("reportByte(0)", x.reportByte(0), -1);
            Due.dueNoSuch("restoreSnapshot()", x::restoreSnapshot);
            Due.due("undoCount()", x.undoCount(), 0);
            Due.due("elements", Due.elements(x), "-4 1 -8 -7 -7 6 2 5 10 -5");
        });
    }

    // Among blanks, the offset of the script's error tells where a byte that begins no token stands.
    private static void dueAt(int place, int sign) {
        int[] words = {BLANKS, BLANKS, BLANKS, BLANKS, BLANKS};
        int shift = 24 - 8 * (place % 4);
        words[place / 4] = words[place / 4] & ~(255 << shift) | sign << shift;
        LazyRangeTree x = new LazyRangeTree();
        Due.due("append()", x.append(words[0], words[1], words[2], words[3], words[4]), 20);
        Due.due("runScript()", x.runScript(), -1);
        Due.due("offset of byte " + sign + " put at " + place, x.scriptErrorOffset(), place);
    }

    private static void promise2Bytes() {
        String[] words = {"`a`: bytes 0 to 3", "`b`: bytes 4 to 7", "`c`: bytes 8 to 11", "`d`: bytes 12 to 15", "`e`: bytes 16 to 19"};
        for (int word = 0; word < 5; word++) {
            int first = 4 * word;
            Edges.of(2, words[word], () -> {
                for (int place = first; place < first + 4; place++) {
                    dueAt(place, '#');
                }
            });
        }
        Edges.of(2, "Appends 20 bytes to the input buffer: the four bytes of each parameter, the most significant byte first.", () -> {
            for (int sign : new int[] {0, 1, 31, 33, 127, 128, 160, 255}) {
                dueAt(0, sign);
                dueAt(3, sign);
                dueAt(19, sign);
            }
            LazyRangeTree x = new LazyRangeTree();
            Due.due("append()", x.append(0x73657175, 0x656e6365, 0x20313233, 0x343b2020, 0x20202020), 20);
            Due.due("runScript()", x.runScript(), 1);
            Due.due("element(0)", x.element(0), 1234);
            LazyRangeTree y = new LazyRangeTree();
            Due.due("append()", y.append(BLANKS, BLANKS, BLANKS, 0x20207365, 0x7175656e), 20);
            Due.due("append()", y.append(0x63652035, 0x3b202020, BLANKS, BLANKS, BLANKS), 40);
            Due.due("runScript() of a word on both sides of byte 20", y.runScript(), 1);
            Due.due("element(0)", y.element(0), 5);
        });
    }

    private static void promise2Limit() {
        String words = "Returns the new length of the buffer, or NONE (and nothing is appended) if it would be greater than 600.";
        Edges.of(2, words, () -> {
            LazyRangeTree x = new LazyRangeTree();
            for (int length = 20; length <= 600; length += 20) {
                Due.due("append() up to " + length, blanks(x), length);
            }
            Due.due("append() to 600", blanks(x), -1);
            dueLength("append() to 600", x, 600);
            Due.due("append() to 600 once more", blanks(x), -1);
        });
        for (int length : new int[] {1, 19, 20, 21, 559, 561, 579, 580}) {
            Edges.of(2, words, () -> {
                LazyRangeTree x = filled(length);
                Due.due("append() to " + length, blanks(x), length + 20);
                dueLength("append() to " + length, x, length + 20);
            });
        }
        for (int length : new int[] {581, 582, 590, 599, 600}) {
            Edges.of(2, words, () -> {
                LazyRangeTree x = filled(length);
                Due.due("append() to " + length, blanks(x), -1);
                dueLength("append() to " + length, x, length);
            });
        }
        Edges.of(2, "(and nothing is appended)", () -> {
            LazyRangeTree x = filled(580);
            x.append(BLANKS, BLANKS, 0x73657175, 0x656e6365, 0x20393b20);
            Due.due("append() to 600", x.append(0x23232323, 0x23232323, 0x23232323, 0x23232323, 0x23232323), -1);
            Due.due("runScript()", x.runScript(), 1);
            Due.due("element(0)", x.element(0), 9);
            LazyRangeTree y = filled(581);
            Due.due("append() to 581", y.append(0x23232323, 0x23232323, 0x23232323, 0x23232323, 0x23232323), -1);
            Due.due("runScript()", y.runScript(), -1);
            Due.due("scriptErrorOffset() of 581 blanks", y.scriptErrorOffset(), 581);
        });
    }

    private static void promise3() {
        Edges.of(3, "Shortens the input buffer.", () -> {
            LazyRangeTree x = new LazyRangeTree();
            Due.type(x, "sequence 1 2;junk");
            x.truncateInput(13);
            Due.due("append() behind truncateInput(13)", x.append(0x61646420, 0x30203020, 0x363b2020, BLANKS, BLANKS), 33);
            Due.due("runScript()", x.runScript(), 2);
            Due.due("elements", Due.elements(x), "7 2");
            Due.due("undoCount(), truncating is no change", x.undoCount(), 1);
        });
        Edges.of(3, "`length`: the new length", () -> {
            LazyRangeTree x = filled(600);
            for (int length : new int[] {600, 599, 598, 20, 19, 1, 1, 0, 0}) {
                Due.due("truncateInput(" + length + ")", x.truncateInput(length), length);
                dueLength("truncateInput(" + length + ")", x, length);
            }
            Due.due("append() to the empty buffer", blanks(x), 20);
        });
        Edges.of(3, "Returns the new length.", () -> {
            Due.due("truncateInput(0) of the empty buffer", new LazyRangeTree().truncateInput(0), 0);
            Due.due("truncateInput(599)", filled(600).truncateInput(599), 599);
        });
        Edges.of(3, "Throws `IllegalArgumentException` if `length` is negative or greater than the present length", () -> {
            for (int present : new int[] {0, 1, 20, 599, 600}) {
                LazyRangeTree x = filled(present);
                for (int wrong : new int[] {-1, present + 1, present + 20, Integer.MIN_VALUE, Integer.MAX_VALUE}) {
                    Due.dueArgument("truncateInput(" + wrong + ") of " + present, () -> x.truncateInput(wrong));
                }
                dueLength("behind a refused truncateInput() of " + present, x, present);
            }
            LazyRangeTree x = filled(20);
            x.runScript();
            Due.dueArgument("truncateInput(1) behind runScript()", () -> x.truncateInput(1));
        });
        Edges.of(Edges.TERMS, "A call that throws an exception changes nothing.", () -> {
            LazyRangeTree x = new LazyRangeTree();
            Due.type(x, "sequence 1 2;");
            Due.dueArgument("truncateInput(-1)", () -> x.truncateInput(-1));
            Due.dueArgument("truncateInput(14)", () -> x.truncateInput(14));
            Due.due("runScript()", x.runScript(), 2);
        });
    }
}
