/** Promises 64 and 65. */
public final class ReportTest {
    public static void main(String[] args) {
        promise64();
        promise64Longest();
        promise65();
        Due.close();
    }

    private static void writes(LazyRangeTree x, int from, int to, String text) {
        Due.due("writeRange(" + from + ", " + to + ")", x.writeRange(from, to), text.length());
        Due.due("report", Due.report(x), text);
        Due.due("byte behind the report", x.reportByte(text.length()), -1);
    }

    private static void promise64() {
        LazyRangeTree x = Due.made("sequence 0 -1 9 10 -99 100 999 -1000 9999 -9999 1010;add 8 8 9999;");
        writes(x, 0, 10, "0,-1,9,10,-99,100,999,-1000,19998,-9999,1010");
        writes(x, 0, 0, "0");
        writes(x, 1, 2, "-1,9");
        writes(x, 9, 10, "-9999,1010");
        Due.dueRangeChecks("writeRange", 11, (from, to) -> x.writeRange(from, to));
        Due.due("report in spite of wrong ranges", Due.report(x), "-9999,1010");
        x.negate(0, 10);
        Due.due("report stays as written", Due.report(x), "-9999,1010");
        x.saveSnapshot();
        x.restoreSnapshot();
        Due.due("report stays as written", Due.report(x), "-9999,1010");
        writes(x, 9, 10, "9999,-1010");
    }

    private static void promise64Longest() {
        LazyRangeTree x = Due.made("sequence 0;repeat 13(append 0;append 0;append 0;);"
                + "repeat 10(repeat 10(add 0 39 -9999;););add 0 39 -100;");
        StringBuilder text = new StringBuilder("-1000000");
        for (int i = 1; i < 40; i++) {
            text.append(",-1000000");
        }
        writes(x, 0, 39, text.toString());
        Due.due("reportByte(358)", x.reportByte(358), (int) '0');
        LazyRangeTree far = Edges.atTheLimits();
        writes(far, 0, 1, "1000000,-1000000");
        far.add(0, 0, -1);
        writes(far, 0, 0, "999999");
    }

    private static void promise65() {
        LazyRangeTree x = new LazyRangeTree();
        Due.due("reportByte(0)", x.reportByte(0), -1);
        x.writeRange(0, 1);
        Due.due("reportByte(0)", x.reportByte(0), (int) '-');
        Due.due("reportByte(1)", x.reportByte(1), (int) '4');
        Due.due("reportByte(2)", x.reportByte(2), (int) ',');
        Due.due("reportByte(3)", x.reportByte(3), (int) '1');
        for (int none : new int[] {4, -1, 359, 360, 361, Integer.MIN_VALUE, Integer.MAX_VALUE}) {
            Due.due("reportByte of no byte", x.reportByte(none), -1);
        }
        x.writeRange(1, 1);
        Due.due("reportByte(0)", x.reportByte(0), (int) '1');
        Due.due("reportByte(1)", x.reportByte(1), -1);
    }
}
