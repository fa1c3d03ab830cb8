/** Promises 4, 16 and 17: scripts, and the errors in them. */
public final class ScriptTest {
    private static final String VALUES_40 =
            "1 2 3 4 5 6 7 8 9 10 11 12 13 14 15 16 17 18 19 20 21 22 23 24 25 26 27 28 29 30 "
            + "31 32 33 34 35 36 37 38 39 40";

    public static void main(String[] args) {
        promise4Replaces();
        promise4AnErrorKeepsAll();
        promise4Commands();
        promise4Repeats();
        promise4Limits();
        tokens();
        kind1();
        kind2();
        kind3();
        kind4();
        kind5();
        kind6();
        firstErrorOnly();
        promises16And17();
        Due.close();
    }

    private static void makes(String text, String elements) {
        LazyRangeTree x = new LazyRangeTree();
        int count = elements.split(" ").length;
        Due.due("runScript() of " + text, Due.run(x, text), count);
        Due.due("elements by " + text, Due.elements(x), elements);
        Due.due("scriptErrorKind()", x.scriptErrorKind(), 0);
        Due.due("scriptErrorOffset()", x.scriptErrorOffset(), -1);
    }

    private static void fails(String text, int kind, int offset) {
        LazyRangeTree x = new LazyRangeTree();
        Due.due("runScript() of " + text, Due.run(x, text), -1);
        Due.due("scriptErrorKind() of " + text, x.scriptErrorKind(), kind);
        Due.due("scriptErrorOffset() of " + text, x.scriptErrorOffset(), offset);
        Due.due("elements in spite of " + text, Due.elements(x), "-4 1 -8 -7 -7 6 2 5 10 -5");
        Due.due("undoCount()", x.undoCount(), 0);
    }

    private static void promise4Replaces() {
        LazyRangeTree x = new LazyRangeTree();
        x.negate(2, 6);
        x.pushAll();
        Due.due("runScript()", Due.run(x, "sequence 3 1 2;"), 3);
        Due.due("elements", Due.elements(x), "3 1 2");
        Due.due("markedNodes()", x.markedNodes(), 0);
        Due.due("updateCount()", x.updateCount(), 0);
        Due.due("pushCount()", x.pushCount(), 0);
        Due.due("appliedCount()", x.appliedCount(), 0);
        Due.due("nodeCount()", x.nodeCount(), 5);
        Due.due("the input is empty", x.append(0, 0, 0, 0, 0), 20);
        x.truncateInput(0);
        Due.due("runScript()", Due.run(x, "sequence 1 2; negate 0 0; push 1; assign 0 1 3; push 1; settle;"), 2);
        Due.due("updateCount()", x.updateCount(), 2);
        Due.due("pushCount()", x.pushCount(), 1);
        Due.due("appliedCount()", x.appliedCount(), 2);
        Due.run(x, "sequence 1 2; negate 0 0; oops");
        Due.due("runScript()", Due.run(x, "sequence 1 2 3; negate 0 2;"), 3);
        Due.due("updateCount()", x.updateCount(), 1);
        Due.due("pushCount()", x.pushCount(), 0);
        Due.due("appliedCount()", x.appliedCount(), 1);
    }

    private static void promise4AnErrorKeepsAll() {
        LazyRangeTree x = new LazyRangeTree();
        x.writeRange(0, 1);
        x.negate(2, 6);
        int pushes = x.pushCount();
        int marked = x.markedNodes();
        Due.due("runScript()", Due.run(x, "sequence 1 2 3;negate 0 1;settle;oops;"), -1);
        Due.due("elements", Due.elements(x), "-4 1 8 7 7 -6 -2 5 10 -5");
        Due.due("pushCount()", x.pushCount(), pushes);
        Due.due("markedNodes()", x.markedNodes(), marked);
        Due.due("updateCount()", x.updateCount(), 5);
        Due.due("undoCount()", x.undoCount(), 1);
        Due.due("report", Due.report(x), "-4,1");
        Due.due("the input is empty", x.append(0, 0, 0, 0, 0), 20);
        Due.due("undo()", x.undo(), 0);
        Due.due("elements", Due.elements(x), "-4 1 -8 -7 -7 6 2 5 10 -5");
    }

    private static void promise4Commands() {
        makes("sequence 5;", "5");
        makes("sequence -5 - 6 -0 0007 9999 -9999;", "-5 -6 0 7 9999 -9999");
        makes("sequence 1 2 3;assign 1 2 -8;", "1 -8 -8");
        makes("sequence 1 2 3;assign 0 0 9999;assign 2 2 -9999;", "9999 2 -9999");
        makes("sequence 1 2 3;add 0 1 -4;add 2 2 9;", "-3 -2 12");
        makes("sequence 1 2 3;negate 0 1;", "-1 -2 3");
        makes("sequence 1 2 3;add 0 2 1;push 1;push 2;", "2 3 4");
        makes("sequence 1 2 3;add 0 2 1;settle;", "2 3 4");
        makes("sequence 1 2;append -3;append 4;", "1 2 -3 4");
        makes("sequence 1 2;append 3;remove;remove;", "1");
        LazyRangeTree x = Due.made("sequence 1 2 3;add 0 2 1;push 1;");
        Due.due("markOffset(1)", x.markOffset(1), 0);
        Due.due("markOffset(2)", x.markOffset(2), 1);
        LazyRangeTree y = Due.made("sequence 1 2 3;add 0 2 1;settle;");
        Due.due("markedNodes()", y.markedNodes(), 0);
        Due.due("pushCount()", y.pushCount(), 2);
    }

    private static void promise4Repeats() {
        makes("sequence 1 2;repeat 3(add 0 0 5;negate 1 1;);", "16 -2");
        makes("sequence 0;repeat 2(add 0 0 1;repeat 3(add 0 0 10;repeat 4(add 0 0 100;););add 0 0 1;);add 0 0 7;", "2471");
        makes("sequence 0;repeat 5();repeat 20(repeat 20(repeat 20();););", "0");
        makes("sequence 0;repeat 20(repeat 20(repeat 20();););add 0 0 3;", "3");
        makes("sequence 1;repeat 4(append 7;);repeat 3(remove;);", "1 7");
        makes("sequence 0;repeat 0020(add 0 0 1;);", "20");
        makes("sequence 0;repeat 1(repeat 1(repeat 1(add 0 0 1;););repeat 2(repeat 1(add 0 0 1;);););", "3");
    }

    private static void promise4Limits() {
        makes("sequence " + VALUES_40 + ";", VALUES_40);
        makes("sequence 0;repeat 20(repeat 10(add 0 0 1;););", "200");
        makes("sequence 0;repeat 20(repeat 9(add 0 0 1;);add 0 0 100;);", "2180");
        StringBuilder text = new StringBuilder("sequence 1;");
        while (text.length() < 600) {
            text.append(' ');
        }
        makes(text.toString(), "1");
    }

    private static void tokens() {
        makes("sequence1-2;", "1 -2");
        makes(" \n sequence\n1\n2 ; \n", "1 2");
        makes("sequence 1 2;add0 1-1;repeat2(negate0 0;) ;", "0 1");
        makes("sequence 1 2 ; add 0 1 1 ; repeat 2 ( remove ; append 5 ; ) ;", "2 5");
    }

    private static void kind1() {
        fails("", 1, 0);
        fails("  ", 1, 2);
        fails("sequence", 1, 8);
        fails("sequence ;", 1, 9);
        fails("sequence 1", 1, 10);
        fails("sequence 1  ", 1, 12);
        fails("sequence -", 1, 10);
        fails("sequence -;", 1, 10);
        fails("sequence --1;", 1, 10);
        fails("sequence 1,2;", 1, 10);
        fails("sequence 1 12345;", 1, 11);
        fails("sequence 1 00001;", 1, 11);
        fails("sequence 1 -12345;", 1, 12);
        fails("sequences 1;", 1, 0);
        fails("sequenc 1;", 1, 0);
        fails("Sequence 1;", 1, 0);
        fails(" add 0 0 1;", 1, 1);
        fails("sequence 1;;", 1, 11);
        fails("sequence 1;sequence 2;", 1, 11);
        fails("sequence 1;5;", 1, 11);
        fails("sequence 1;);", 1, 11);
        fails("sequence 1;(settle;);", 1, 11);
        fails("sequence 1;addd 0 0 1;", 1, 11);
        fails("sequence 1;ad 0 0 1;", 1, 11);
        fails("sequence 1;addz 0 0 1;", 1, 11);
        fails("sequence 1;adda 0 0 1;", 1, 11);
        fails("sequence 1;settle", 1, 17);
        fails("sequence 1;settle ", 1, 18);
        fails("sequence 1;settle 1;", 1, 18);
        fails("sequence 1;add 0 0;", 1, 18);
        fails("sequence 1;add 0 0 1 1;", 1, 21);
        fails("sequence 1;add -0 0 1;", 1, 15);
        fails("sequence 1;add 0 -0 1;", 1, 17);
        fails("sequence 1;add 0 0 - ;", 1, 21);
        fails("sequence 1;add 0 0 --1;", 1, 20);
        fails("sequence 1;add 00000 0 1;", 1, 15);
        fails("sequence 1;add 0 99999 1;", 1, 17);
        fails("sequence 1;add 0 0 10000;", 1, 19);
        fails("sequence 1;add 0 0 -10000;", 1, 20);
        fails("sequence 1;negate 0 0 0;", 1, 22);
        fails("sequence 1;push;", 1, 15);
        fails("sequence 1 2;push -1;", 1, 18);
        fails("sequence 1;append;", 1, 17);
        fails("sequence 1;append 12345;", 1, 18);
        fails("sequence 1;remove 1;", 1, 18);
        fails("sequence 1 2;assign 0 1 3\t;", 1, 25);
        fails("sequence 1;repeat(settle;);", 1, 17);
        fails("sequence 1;repeat -1(settle;);", 1, 18);
        fails("sequence 1;repeat 12345(settle;);", 1, 18);
        fails("sequence 1;repeat 2 settle;", 1, 20);
        fails("sequence 1;repeat 2;", 1, 19);
        fails("sequence 1;repeat 2(settle);", 1, 26);
        fails("sequence 1;repeat 2(;);", 1, 20);
        fails("sequence 1;repeat 2((););", 1, 20);
        fails("sequence 1;repeat 2(settle;)", 1, 28);
        fails("sequence 1;repeat 2(settle;)settle;", 1, 28);
        fails("sequence 1;repeat 2(settle;", 1, 27);
        fails("sequence 1;repeat 2(", 1, 20);
        fails("sequence 1;repeat", 1, 17);
        fails("sequence 1;repeat 2(settle;););", 1, 29);
        fails("sequence 1;A", 1, 11);
        fails("sequence 1;{", 1, 11);
        fails("sequence 1;`", 1, 11);
        fails("sequence 1/", 1, 10);
        fails("sequence 1:", 1, 10);
    }

    private static void kind2() {
        fails("sequence 1 2;assign 2 2 5;", 2, 20);
        fails("sequence 1 2;assign 0 2 5;", 2, 22);
        fails("sequence 1 2;assign 1 0 5;", 2, 22);
        fails("sequence 1 2;add 9999 0 5;", 2, 17);
        fails("sequence 1 2;add 1 0 5;", 2, 19);
        fails("sequence 1 2;negate 2 1;", 2, 20);
        fails("sequence 1 2;negate 1 0;", 2, 22);
        fails("sequence 1 2;push 0;", 2, 18);
        fails("sequence 1 2;push 4;", 2, 18);
        fails("sequence 1 2 3;push 6;", 2, 20);
        fails("sequence 1 2;push 9999;", 2, 18);
        fails("sequence 1;repeat 0(settle;);", 2, 18);
        fails("sequence 1;repeat 21(settle;);", 2, 18);
        fails("sequence 1;repeat 0000(settle;);", 2, 18);
        fails("sequence 1;repeat 9999 settle", 2, 18);
        fails("sequence 1 2;assign 5 junk", 2, 20);
        fails("sequence 1 2 3;repeat 3(negate 0 1;remove;);", 2, 33);
    }

    private static void kind3() {
        fails("sequence " + VALUES_40 + " 41;", 3, 120);
        fails("sequence " + VALUES_40 + " -41;", 3, 121);
        fails("sequence " + VALUES_40 + " - 41;", 3, 122);
        fails("sequence " + VALUES_40 + " 41 42;junk", 3, 120);
        fails("sequence " + VALUES_40 + " 12345;", 1, 120);
        fails("sequence " + VALUES_40 + " -;", 1, 121);
        fails("sequence " + VALUES_40 + " --1;", 1, 121);
        fails("sequence " + VALUES_40 + " x;", 1, 120);
        fails("sequence " + VALUES_40, 1, 119);
    }

    private static void kind4() {
        fails("sequence 9999;repeat 20(repeat 10(add 0 0 9999;););", 4, 46);
        fails("sequence -9999;repeat 20(repeat 10(add 0 0 -9999 ;););", 4, 49);
        fails("sequence 1 2;push 2;", 4, 19);
        fails("sequence 1;push 1 ;", 4, 18);
        fails("sequence 1;remove;", 4, 17);
        fails("sequence " + VALUES_40 + ";append 1;", 4, 128);
        fails("sequence 1;repeat 20(append 1;);repeat 20(append 1;);", 4, 50);
        fails("sequence 1 2;repeat 2(remove;);", 4, 28);
        fails("sequence 1;remove", 1, 17);
        fails("sequence 1;remove)", 1, 17);
        fails("sequence 1;push 1)", 1, 17);
        fails("sequence 1;push 1", 1, 17);
        makes("sequence 9999;repeat 11(repeat 9(add 0 0 9999;););add 0 0 100;", "1000000");
        fails("sequence 9999;repeat 11(repeat 9(add 0 0 9999;););add 0 0 101;", 4, 61);
    }

    private static void kind5() {
        fails("sequence 1;repeat 2(repeat 2(repeat 2(repeat 2(settle;););););", 5, 38);
        fails("sequence 1;repeat 2(repeat 2(repeat 2(repeat", 5, 38);
        fails("sequence 1;repeat 1(repeat 1(repeat 1(repea", 1, 38);
        makes("sequence 1;repeat 2(repeat 2(repeat 2(settle;););repeat 2(settle;););repeat 2(settle;);", "1");
    }

    private static void kind6() {
        fails("sequence 1;repeat 20(repeat 11(negate 0 0;););", 6, 31);
        fails("sequence 0;repeat 20(repeat 10(add 0 0 1;););settle;", 6, 45);
        fails("sequence 0;repeat 20(repeat 10(add 0 0 1;););settle junk", 6, 45);
        fails("sequence 0;repeat 20(repeat 10(add 0 0 1;););junk", 1, 45);
        fails("sequence 0;repeat 20(repeat 10(add 0 0 1;););sequence", 1, 45);
        fails("sequence 0;repeat 20(repeat 10(add 0 0 1;););repeat 1(add 0 0 1;);", 6, 54);
        makes("sequence 0;repeat 20(repeat 10(add 0 0 1;););repeat 5();", "200");
        fails("sequence 0;repeat 20(repeat 5(add 0 0 1;settle;););remove;", 6, 51);
        fails("sequence 0;repeat 20(repeat 5(add 0 0 1;push 1;););", 4, 46);
    }

    private static void firstErrorOnly() {
        fails("sequence 1 2;remove;remove;junk;", 4, 26);
        fails("sequence 1 2;negate 1 0;remove;remove;", 2, 22);
        fails("sequence 1 2;repeat 2(remove;junk);", 1, 29);
        fails("sequence 1 2;repeat 2(remove;)junk", 4, 28);
        fails("sequence 1 2;repeat 1(remove;)junk", 1, 30);
    }

    private static void promises16And17() {
        LazyRangeTree x = new LazyRangeTree();
        Due.due("scriptErrorKind()", x.scriptErrorKind(), 0);
        Due.due("scriptErrorOffset()", x.scriptErrorOffset(), -1);
        Due.run(x, "sequence 1;remove;");
        Due.due("scriptErrorKind()", x.scriptErrorKind(), 4);
        Due.due("scriptErrorOffset()", x.scriptErrorOffset(), 17);
        x.saveSnapshot();
        x.negate(0, 3);
        x.undo();
        x.restoreSnapshot();
        Due.due("scriptErrorKind() stays", x.scriptErrorKind(), 4);
        Due.due("scriptErrorOffset() stays", x.scriptErrorOffset(), 17);
        Due.run(x, "sequence 1 2;oops;");
        Due.due("scriptErrorKind()", x.scriptErrorKind(), 1);
        Due.due("scriptErrorOffset()", x.scriptErrorOffset(), 13);
        Due.run(x, "sequence 1 2;");
        Due.due("scriptErrorKind()", x.scriptErrorKind(), 0);
        Due.due("scriptErrorOffset()", x.scriptErrorOffset(), -1);
        Due.run(x, "");
        Due.due("scriptErrorKind()", x.scriptErrorKind(), 1);
        Due.due("scriptErrorOffset()", x.scriptErrorOffset(), 0);
        x.undo();
        Due.due("scriptErrorKind() is not undone", x.scriptErrorKind(), 1);
    }
}
