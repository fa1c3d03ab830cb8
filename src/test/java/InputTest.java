/** Promises 2 and 3. */
public final class InputTest {
    public static void main(String[] args) {
        promise2BytesInOrder();
        promise2EveryByteCounts();
        promise2Limit();
        promise3();
        Due.close();
    }

    private static int word(String four) {
        return four.charAt(0) << 24 | four.charAt(1) << 16 | four.charAt(2) << 8 | four.charAt(3);
    }

    private static void promise2BytesInOrder() {
        LazyRangeTree x = new LazyRangeTree();
        Due.due("append", x.append(word("sequ"), word("ence"), word(" 12-"), word("34 5"), word("6 7;")), 20);
        Due.due("runScript()", x.runScript(), 4);
        Due.due("elements", Due.elements(x), "12 -34 56 7");
        Due.due("the buffer is empty again", x.append(0, 0, 0, 0, 0), 20);
    }

    private static void promise2EveryByteCounts() {
        for (int place = 0; place < 9; place++) {
            for (int sign : new int[] {0, 127, 128, 255}) {
                LazyRangeTree x = new LazyRangeTree();
                String text = "sequence 1;         ";
                Due.type(x, text.substring(0, 11 + place) + (char) sign + text.substring(12 + place));
                Due.due("runScript()", x.runScript(), -1);
                Due.due("scriptErrorKind()", x.scriptErrorKind(), 1);
                Due.due("scriptErrorOffset()", x.scriptErrorOffset(), 11 + place);
            }
        }
        LazyRangeTree x = new LazyRangeTree();
        Due.due("append", x.append(-1, -1, -1, -1, -1), 20);
        Due.due("runScript()", x.runScript(), -1);
        Due.due("scriptErrorOffset()", x.scriptErrorOffset(), 0);
    }

    private static void promise2Limit() {
        LazyRangeTree x = new LazyRangeTree();
        int blanks = word("    ");
        for (int length = 20; length <= 580; length += 20) {
            Due.due("append", x.append(blanks, blanks, blanks, blanks, blanks), length);
        }
        Due.due("append up to 600", x.append(blanks, blanks, word("sequ"), word("ence"), word("12;\n")), 600);
        Due.due("append beyond 600", x.append(word(";;;;"), 0, 0, 0, 0), -1);
        Due.due("truncateInput(581)", x.truncateInput(600), 600);
        Due.due("runScript()", x.runScript(), 1);
        Due.due("element(0)", x.element(0), 12);
        for (int length = 20; length <= 600; length += 20) {
            Due.due("append", x.append(blanks, blanks, blanks, blanks, blanks), length);
        }
        Due.due("truncateInput(581)", x.truncateInput(581), 581);
        Due.due("append at 581", x.append(0, 0, 0, 0, 0), -1);
        Due.due("truncateInput(580)", x.truncateInput(580), 580);
        Due.due("append at 580", x.append(0, 0, 0, 0, 0), 600);
    }

    private static void promise3() {
        LazyRangeTree x = new LazyRangeTree();
        Due.due("truncateInput(0)", x.truncateInput(0), 0);
        Due.dueArgument("truncateInput(1)", () -> x.truncateInput(1));
        Due.type(x, "sequence 4 5;junk");
        Due.dueArgument("truncateInput(18)", () -> x.truncateInput(18));
        Due.dueArgument("truncateInput(-1)", () -> x.truncateInput(-1));
        Due.dueArgument("truncateInput(lowest)", () -> x.truncateInput(Integer.MIN_VALUE));
        Due.dueArgument("truncateInput(highest)", () -> x.truncateInput(Integer.MAX_VALUE));
        Due.due("truncateInput(17)", x.truncateInput(17), 17);
        Due.due("truncateInput(13)", x.truncateInput(13), 13);
        Due.dueArgument("truncateInput(14)", () -> x.truncateInput(14));
        Due.due("runScript()", x.runScript(), 2);
        Due.due("elements", Due.elements(x), "4 5");
        Due.due("truncating is no change", x.undoCount(), 1);
    }
}
