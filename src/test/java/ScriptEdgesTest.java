/** Scripts in "Terms", and promises 4, 16 and 17, sentence by sentence at their boundaries. */
public final class ScriptEdgesTest {
    private static final String FORTY = Edges.script(Edges.upTo(40)).replace(";", "");
    /** Behind these, a script has executed 200 commands, or one fewer. */
    private static final String COMMANDS_200 = "sequence 0;repeat 20(repeat 10(add 0 0 1;););";
    private static final String COMMANDS_199 = "sequence 0;repeat 19(repeat 10(add 0 0 1;););repeat 9(add 0 0 1;);";

    public static void main(String[] args) {
        all();
        Due.close();
    }

    static void all() {
        lengths();
        grammar();
        grammarOfRepeats();
        words();
        numbers();
        blanks();
        commands();
        repetitions();
        oneAfterTheOther();
        firstError();
        smallestKind();
        kind1();
        kind1AtTheEnd();
        kind2();
        kind3();
        kind4();
        kind5();
        kind6();
        promise4();
        promises16And17();
    }

    private static void makes(String text, String elements) {
        LazyRangeTree x = new LazyRangeTree();
        Due.due("runScript() of " + text, Due.run(x, text), elements.split(" ").length);
        Due.due("elements by " + text, Due.elements(x), elements);
        Due.due("scriptErrorKind() of " + text, x.scriptErrorKind(), 0);
        Due.due("scriptErrorOffset() of " + text, x.scriptErrorOffset(), -1);
    }

    private static void fails(String text, int kind, int offset) {
        LazyRangeTree x = new LazyRangeTree();
        Due.due("runScript() of " + text, Due.run(x, text), -1);
        Due.due("scriptErrorKind() of " + text, x.scriptErrorKind(), kind);
        Due.due("scriptErrorOffset() of " + text, x.scriptErrorOffset(), offset);
        Due.due("elements in spite of " + text, Due.elements(x), "-4 1 -8 -7 -7 6 2 5 10 -5");
    }

    private static void terms(String words, Runnable test) {
        Edges.of(Edges.TERMS, words, test);
    }

    private static String filled(String start, int length, String end) {
        StringBuilder text = new StringBuilder(start);
        while (text.length() + end.length() < length) {
            text.append(' ');
        }
        return text.append(end).toString();
    }

    // ---- the text and its tokens

    private static void lengths() {
        terms("A script is a text of at most 600 bytes.", () -> {
            for (int length : new int[] {599, 600}) {
                makes(filled("sequence 1;", length, "add 0 0 5;"), "6");
                makes(filled("sequence 1;", length, ""), "1");
                fails(filled("sequence 1;", length, "x"), 1, length - 1);
                fails(filled("sequence 1", length, ""), 1, length);
                fails(filled("sequence 1;repeat 2(", length, "remove;"), 4, length - 1);
                fails(filled("sequence 1", length, "12345"), 1, length - 5);
                fails(filled("sequence 1", length, "1234"), 1, length);
            }
            makes(filled("sequence", 600, "7;"), "7");
            makes("sequence 7;", "7");
        });
    }

    private static void grammar() {
        terms("script  = \"sequence\" VALUE { VALUE } \";\" { command \";\" }", () -> {
            makes("sequence 1;", "1");
            makes("sequence 1 2;", "1 2");
            makes("sequence 1;settle;", "1");
            makes("sequence 1;settle;settle;", "1");
            fails("", 1, 0);
            fails("sequence;", 1, 8);
            fails("sequence 1", 1, 10);
            fails("1;", 1, 0);
            fails("settle;", 1, 0);
            fails(";", 1, 0);
            fails("sequence 1;;", 1, 11);
            fails("sequence 1;settle;;", 1, 18);
            fails("sequence 1 settle;", 1, 11);
            fails("sequence sequence 1;", 1, 9);
            fails("sequence 1;sequence 1;", 1, 11);
        });
        terms("\"assign\" INDEX INDEX VALUE", () -> takes("assign 0 1 5"));
        terms("\"add\" INDEX INDEX VALUE", () -> takes("add 0 1 5"));
        terms("\"negate\" INDEX INDEX", () -> takes("negate 0 1"));
        terms("\"push\" NODE", () -> takes("push 1"));
        terms("\"settle\"", () -> takes("settle"));
        terms("\"append\" VALUE", () -> takes("append 5"));
        terms("\"remove\"", () -> takes("remove"));
        terms("VALUE   = [ \"-\" ] NUMBER", () -> {
            makes("sequence 5 -5 - 5 -\n5;", "5 -5 -5 -5");
            makes("sequence 1;assign 0 0 -3;add 0 0 -4;append -5;", "-7 -5");
            fails("sequence --5;", 1, 10);
            fails("sequence -;", 1, 10);
            fails("sequence 5-;", 1, 11);
            fails("sequence - - 5;", 1, 11);
            fails("sequence 1 2;assign -0 1 5;", 1, 20);
            fails("sequence 1 2;assign 0 -1 5;", 1, 22);
            fails("sequence 1 2;push -1;", 1, 18);
            fails("sequence 1;repeat -1(settle;);", 1, 18);
        });
    }

    // Each shorter part of the command lacks its next token where the text ends, and one number more is too many.
    private static void takes(String command) {
        String start = "sequence 1 2;";
        String whole = start + command + ";";
        LazyRangeTree x = new LazyRangeTree();
        Due.due("runScript() of " + whole, Due.run(x, whole) > 0, true);
        fails(start + command, 1, start.length() + command.length());
        fails(start + command + " 1;", 1, start.length() + command.length() + 1);
        fails(start + command + " -1;", 1, start.length() + command.length() + 1);
        fails(start + command + " settle;", 1, start.length() + command.length() + 1);
        fails(start + command + ")", 1, start.length() + command.length());
        for (int end = command.indexOf(' '); end >= 0; end = command.indexOf(' ', end + 1)) {
            String part = start + command.substring(0, end);
            fails(part, 1, part.length());
            fails(part + ";", 1, part.length());
            fails(part + " x;", 1, part.length() + 1);
            fails(part + " 12345;", 1, part.length() + 1);
        }
    }

    private static void grammarOfRepeats() {
        terms("\"repeat\" N \"(\" { command \";\" } \")\"", () -> {
            makes("sequence 1;repeat 2();", "1");
            makes("sequence 1;repeat 2(add 0 0 1;);", "3");
            makes("sequence 1;repeat 2(add 0 0 1;add 0 0 10;);", "23");
            makes("sequence 1;repeat 2(repeat 2(add 0 0 1;););", "5");
            fails("sequence 1;repeat (settle;);", 1, 18);
            fails("sequence 1;repeat 2 settle;);", 1, 20);
            fails("sequence 1;repeat 2)settle;);", 1, 19);
            fails("sequence 1;repeat 2 3(settle;);", 1, 20);
            fails("sequence 1;repeat 2((settle;);", 1, 20);
            fails("sequence 1;repeat 2(settle);", 1, 26);
            fails("sequence 1;repeat 2(;);", 1, 20);
            fails("sequence 1;repeat 2(settle;;);", 1, 27);
            fails("sequence 1;repeat 2(settle;)", 1, 28);
            fails("sequence 1;repeat 2(settle;)settle;", 1, 28);
            fails("sequence 1;repeat 2(settle;));", 1, 28);
            fails("sequence 1;repeat 2(settle;);)", 1, 29);
            fails("sequence 1;repeat 2(settle;););", 1, 29);
            fails("sequence 1;);", 1, 11);
            fails("sequence 1;(settle;);", 1, 11);
            fails("sequence 1;repeat 1(sequence 2;);", 1, 20);
            fails("sequence 1;repeat 1(repeat 1(settle;));", 1, 37);
        });
    }

    private static void words() {
        terms("A token is a word (a maximal run of the letters a to z)", () -> {
            makes("sequence1;settle;", "1");
            fails("sequences 1;", 1, 0);
            fails("sequenc 1;", 1, 0);
            fails("sequence 1;settles;", 1, 11);
            fails("sequence 1;settl;", 1, 11);
            fails("sequence 1;s ettle;", 1, 11);
            fails("sequence 1;settlesettle;", 1, 11);
            fails("sequence 1;Settle;", 1, 11);
            fails("sequence 1;settlE;", 1, 11);
            fails("sequence 1;settle`;", 1, 17);
            fails("sequence 1;settleA;", 1, 17);
            fails("sequence 1;settleZ;", 1, 17);
            fails("sequence 1;settle1;", 1, 17);
            fails("sequenceA 1;", 1, 8);
            fails("sequence 1;settle{;", 1, 17);
            fails("sequence 1;settlea;", 1, 11);
            fails("sequence 1;settlez;", 1, 11);
            fails("sequence 1;asettle;", 1, 11);
            fails("sequence 1;zsettle;", 1, 11);
            fails("sequence 1;`", 1, 11);
            fails("sequence 1;{", 1, 11);
            fails("sequence 1;a", 1, 11);
            fails("sequence 1;z", 1, 11);
        });
        terms("A token is a word (a maximal run of the letters a to z)", () -> {
            String[] commands = {"assign 0 0 1", "add 0 0 1", "negate 0 0", "push 1", "settle", "append 1", "remove", "repeat 1()"};
            for (String command : commands) {
                Due.due("runScript() with " + command, Due.run(new LazyRangeTree(), "sequence 1 2;" + command + ";"),
                        command.startsWith("append") ? 3 : command.equals("remove") ? 1 : 2);
                String word = command.split(" ")[0];
                fails("sequence 1 2;" + command.substring(1) + ";", 1, 13);
                fails("sequence 1 2;x" + command + ";", 1, 13);
                fails("sequence 1 2;" + command.replace(word, word.substring(0, word.length() - 1)) + ";", 1, 13);
                fails("sequence 1 2;" + command.replace(word, word + "e") + ";", 1, 13);
                fails("sequence 1 2;" + command.replace(word, word.toUpperCase()) + ";", 1, 13);
                for (int place = 0; place < word.length(); place++) {
                    String other = word.substring(0, place) + (word.charAt(place) == 'z' ? 'y' : 'z') + word.substring(place + 1);
                    fails("sequence 1 2;" + command.replace(word, other) + ";", 1, 13);
                }
            }
        });
    }

    private static void numbers() {
        terms("a number (a maximal run of 1 to 4 digits)", () -> {
            makes("sequence 0 9 10 99 100 999 1000 9999;", "0 9 10 99 100 999 1000 9999");
            makes("sequence 00 000 0000 0001 0010 0100;", "0 0 0 1 10 100");
            makes("sequence 1234-5678-9 0;", "1234 -5678 -9 0");
            makes("sequence -0;", "0");
            makes("sequence 1 2;add 0000 0001 0001;push 0001;repeat 0002(negate 0 1;);", "2 3");
            fails("sequence 00000;", 1, 9);
            fails("sequence 12345;", 1, 9);
            fails("sequence 123456;", 1, 9);
            fails("sequence 1 00001;", 1, 11);
            fails("sequence 1/;", 1, 10);
            fails("sequence 1:;", 1, 10);
            fails("sequence /;", 1, 9);
            fails("sequence :;", 1, 9);
            fails("sequence 1.5;", 1, 10);
            fails("sequence +1;", 1, 9);
        });
        terms("a hyphen, a parenthesis or a semicolon", () -> {
            makes("sequence-1;repeat2(negate0 0;add0 0-1;);", "-1");
            fails("sequence -1;repeat2[negate0 0;];", 1, 19);
            fails("sequence 1;repeat 2{settle;};", 1, 19);
            fails("sequence _1;", 1, 9);
            fails("sequence 1,", 1, 10);
            fails("sequence 1:", 1, 10);
            fails("sequence 1;repeat 2'settle;);", 1, 19);
            fails("sequence 1;repeat 2*settle;);", 1, 19);
            fails("sequence 1;repeat 2(settle;*;", 1, 27);
            fails("sequence ,1;", 1, 9);
            fails("sequence .1;", 1, 9);
        });
    }

    private static void blanks() {
        terms("Spaces (byte 32) and line feeds (byte 10) separate tokens and are otherwise ignored.", () -> {
            for (int sign = 0; sign < 256; sign++) {
                boolean blank = sign == 32 || sign == 10;
                String with = "sequence 1;" + (char) sign + "settle;";
                if (blank) {
                    makes(with, "1");
                    makes("sequence 1" + (char) sign + "2;", "1 2");
                    fails("sequence 1;set" + (char) sign + "tle;", 1, 11);
                } else {
                    fails(with, 1, 11);
                }
            }
        });
        terms("and are otherwise ignored", () -> {
            makes(" \n  sequence \n 1 \n\n - 2 \n ; \n add \n 0 0 \n - 3 \n ; \n repeat \n 2 \n ( \n settle \n ; \n ) \n ; \n ", "-2 -2");
            makes("sequence 1 2;assign0 1-3;", "-3 -3");
            makes("\nsequence 1;", "1");
            makes("sequence 1;\n", "1");
            fails("sequence 1 2;add 0 11;", 2, 19);
            fails(" \n x", 1, 3);
            fails("   ", 1, 3);
        });
    }

    // ---- the commands

    private static void commands() {
        terms("The commands stand for the methods assign, add, negate, pushDown, pushAll, appendElement and removeLast", () -> {
            LazyRangeTree made = Due.made("sequence 1 2 3 4 5;assign 1 3 7;add 0 2 -8;negate 2 4;push 1;push 2;negate 0 4;settle;append 9;remove;add 0 3 1;");
            LazyRangeTree x = Edges.of(1, 2, 3, 4, 5);
            x.assign(1, 3, 7);
            x.add(0, 2, -8);
            x.negate(2, 4);
            x.pushDown(1);
            x.pushDown(2);
            x.negate(0, 4);
            x.pushAll();
            x.appendElement(9);
            x.removeLast();
            x.add(0, 3, 1);
            Due.due("all by the script", Due.state(made), Due.state(x));
            Due.due("undoCount() behind the script", made.undoCount(), 1);
            Due.due("undoCount() behind the methods", x.undoCount(), 8);
        });
        terms("The commands stand for the methods assign, add, negate, pushDown, pushAll, appendElement and removeLast", () -> {
            LazyRangeTree pushed = Due.made("sequence 1 2 3 4;negate 0 3;push 1;");
            Due.due("marks behind push 1", Due.marks(pushed), "2:-1,0 3:-1,0");
            LazyRangeTree settled = Due.made("sequence 1 2 3 4;negate 0 3;settle;");
            Due.due("marks behind settle", Due.marks(settled), "");
            Due.due("pushCount() behind settle", settled.pushCount(), 3);
            LazyRangeTree appended = Due.made("sequence 1 2 3 4;negate 0 3;append 0;");
            Due.due("marks behind append", Due.marks(appended), "");
            Due.due("pushCount() behind append", appended.pushCount(), 0);
            makes("sequence 1;append -9999;append 9999;append -0;", "1 -9999 9999 0");
            makes("sequence 1 2;assign 0 0 9999;assign 1 1 -9999;", "9999 -9999");
            makes("sequence 1 2;add 0 0 9999;add 1 1 -9999;", "10000 -9997");
        });
    }

    private static void repetitions() {
        terms("\"repeat\" executes the commands in its parentheses N times (1 to 20)", () -> {
            for (int times : new int[] {1, 2, 19, 20}) {
                makes("sequence 0;repeat " + times + "(add 0 0 1;);", "" + times);
                makes("sequence 0;repeat " + times + "(add 0 0 1;add 0 0 100;);add 0 0 5;", "" + (101 * times + 5));
                makes("sequence 0;repeat " + times + "();add 0 0 5;", "5");
            }
            fails("sequence 0;repeat 0(add 0 0 1;);", 2, 18);
            fails("sequence 0;repeat 21(add 0 0 1;);", 2, 18);
            fails("sequence 0;repeat 22();", 2, 18);
            fails("sequence 0;repeat 9999();", 2, 18);
            fails("sequence 0;repeat 0();", 2, 18);
        });
        terms("\"repeat\" executes the commands in its parentheses N times (1 to 20)", () -> {
            makes("sequence 0;repeat 2(repeat 3(repeat 4(add 0 0 1;);add 0 0 100;);add 0 0 1000;);", "2624");
            makes("sequence 0;repeat 3(repeat 1();add 0 0 1;repeat 2(add 0 0 10;);repeat 20(););", "63");
            makes("sequence 0;repeat 20(repeat 20(repeat 20();););add 0 0 7;", "7");
            makes("sequence 0;repeat 2(repeat 2(repeat 2(add 0 0 1;);repeat 2(add 0 0 1;););repeat 2(add 0 0 1;););repeat 2(add 0 0 1;);", "22");
        });
    }

    private static void oneAfterTheOther() {
        terms("Commands are executed one after the other.", () -> {
            makes("sequence 1;add 0 0 5;negate 0 0;", "-6");
            makes("sequence 1;negate 0 0;add 0 0 5;", "4");
            makes("sequence 1;repeat 2(add 0 0 5;negate 0 0;);", "1");
            makes("sequence 1 2;remove;append 9;", "1 9");
            makes("sequence 1;append 9;remove;", "1");
            makes("sequence 1;append 2;negate 0 1;append 3;negate 0 2;", "1 2 -3");
        });
    }

    // ---- errors

    private static void firstError() {
        String words = "The first error that is found while the commands are executed is reported with the offset of the first byte of its token";
        terms(words, () -> {
            fails("sequence 1;remove;junk;", 4, 17);
            fails("sequence 1;junk;remove;", 1, 11);
            fails("sequence 1 2;negate 1 0 junk", 2, 22);
            fails("sequence 1 2;negate 5 6;", 2, 20);
            fails("sequence 1;  \n settles;", 1, 15);
            fails("sequence 1 2;add 0   9999 1;", 2, 21);
            fails("sequence 1;add 0 0 - 12345;", 1, 21);
            fails("sequence 1;repeat 1(remove;junk;);", 4, 26);
            fails("sequence 1 2;repeat 2(remove;)junk", 4, 28);
            fails("sequence 1 2;repeat 1(remove;)junk", 1, 30);
            fails("sequence 1;repeat 20(junk", 1, 21);
        });
        terms("also if it is found in a later repetition", () -> {
            fails("sequence 1 2 3;repeat 3(remove;);", 4, 30);
            makes("sequence 1 2 3;repeat 2(remove;);", "1");
            fails("sequence 1 2 3;repeat 2(negate 0 2;remove;);", 2, 33);
            makes("sequence 1 2 3;repeat 1(negate 0 2;remove;);", "-1 -2");
            fails("sequence 1 2 3 4 5;repeat 2(push 4;remove;remove;remove;);", 2, 33);
            fails("sequence 1 2 3 4 5;repeat 2(push 4;remove;remove;);", 4, 34);
            fails("sequence 1 2 3;repeat 2(push 2;remove;);", 4, 30);
            fails("sequence 1;repeat 20(append 1;append 2;);", 4, 38);
            fails("sequence 1 2;repeat 20(append 1;append 2;);", 4, 31);
            fails("sequence 1 2;repeat 20(repeat 20(append 1;););", 4, 41);
            fails("sequence 9999;repeat 20(repeat 6(add 0 0 9999;););", 4, 45);
        });
    }

    private static void smallestKind() {
        String words = "if several kinds of error apply to one token, the smallest kind is reported";
        terms(words, () -> {
            fails(FORTY + " 12345;", 1, FORTY.length() + 1);
            fails(FORTY + " -12345;", 1, FORTY.length() + 2);
            fails("sequence 1;add 99999 0 1;", 1, 15);
            fails("sequence 1;repeat 00000(settle;);", 1, 18);
            fails("sequence 1;push 00000;", 1, 16);
            fails(COMMANDS_200 + "junk;", 1, COMMANDS_200.length());
            fails(COMMANDS_200 + "sequence 1;", 1, COMMANDS_200.length());
            fails(COMMANDS_200 + ";", 1, COMMANDS_200.length());
            fails("sequence 1;repeat 1(repeat 1(repeat 1(repeats", 1, 38);
            fails(COMMANDS_200 + "repeat 1(repeat 1(repeat 1(repeat 1(settle;);", 5, COMMANDS_200.length() + 27);
            fails("sequence 1;remove)", 1, 17);
            fails("sequence 1;remove", 1, 17);
            fails("sequence 1;push 1 2;", 1, 18);
        });
    }

    private static void kind1() {
        terms("a token that the grammar does not allow at this place", () -> {
            for (String wrong : new String[] {"5", "-", "(", ")", ";", "sequence", "word"}) {
                fails("sequence 1;" + wrong + " 0 0 1;", 1, 11);
                fails("sequence 1;repeat 1(" + wrong.replace(")", ";") + " 0 0 1;);", 1, 20);
            }
            for (String wrong : new String[] {"(", ")", ";", "add", "x", "-"}) {
                fails("sequence 1;add 0 " + wrong + " 1;", 1, 17);
                fails("sequence 1;push " + wrong + ";", 1, 16);
                fails("sequence 1;repeat " + wrong + "();", 1, 18);
            }
        });
        terms("a run of more than 4 digits", () -> {
            makes("sequence 1;add 0 0 1234;", "1235");
            fails("sequence 1;add 0 0 12345;", 1, 19);
            fails("sequence 1;add 0 0 -12345;", 1, 20);
            fails("sequence 1;add 0 0 00000;", 1, 19);
            fails("sequence 1;add 00000 0 1;", 1, 15);
            fails("sequence 1;add 0 00000 1;", 1, 17);
            fails("sequence 1;push 00001;", 1, 16);
            fails("sequence 1;append 10000;", 1, 18);
            fails("sequence 1;repeat 00001();", 1, 18);
            fails("sequence 1;12345", 1, 11);
            fails("sequence " + "1".repeat(591), 1, 9);
        });
        terms("a byte that does not begin a token", () -> {
            for (int sign = 0; sign < 256; sign++) {
                boolean begins = sign >= 'a' && sign <= 'z' || sign >= '0' && sign <= '9' || sign == '-' || sign == '(' || sign == ')' || sign == ';';
                if (!begins && sign != 32 && sign != 10) {
                    fails("sequence 1 " + (char) sign + " 2;", 1, 11);
                    fails("sequence 1 2;assign" + (char) sign + "0 1 5;", 1, 19);
                }
            }
        });
    }

    private static void kind1AtTheEnd() {
        terms("or the end of the text inside a statement (the offset is then the length of the text)", () -> {
            fails("", 1, 0);
            fails(" ", 1, 1);
            fails("sequence", 1, 8);
            fails("sequence -", 1, 10);
            fails("sequence 1", 1, 10);
            fails("sequence 1 \n ", 1, 13);
            makes("sequence 1;", "1");
            makes("sequence 1; \n ", "1");
            fails("sequence 1;settle", 1, 17);
            fails("sequence 1;settle  ", 1, 19);
            makes("sequence 1;settle;", "1");
            makes("sequence 1;settle;  ", "1");
            fails("sequence 1;add 0 0 -", 1, 20);
            fails("sequence 1;repeat", 1, 17);
            fails("sequence 1;repeat 1", 1, 19);
            fails("sequence 1;repeat 1(", 1, 20);
            fails("sequence 1;repeat 1(settle;", 1, 27);
            fails("sequence 1;repeat 1(settle;  ", 1, 29);
            fails("sequence 1;repeat 1(settle;)", 1, 28);
            makes("sequence 1;repeat 1(settle;);", "1");
            fails("sequence 1;repeat 1(repeat 1(settle;);", 1, 38);
        });
    }

    private static void kind2() {
        terms("2, a number that is out of its range or does not exist", () -> {
            for (int n : new int[] {1, 2, 40}) {
                String start = Edges.script(Edges.upTo(n));
                int at = start.length();
                Due.due("runScript()", Due.run(new LazyRangeTree(), start + "negate " + (n - 1) + " " + (n - 1) + ";"), n);
                fails(start + "negate " + n + " " + n + ";", 2, at + 7);
                fails(start + "negate 0 " + n + ";", 2, at + 9);
                fails(start + "assign " + n + " 0 5;", 2, at + 7);
                fails(start + "assign 0 " + n + " 5;", 2, at + 9);
                fails(start + "add " + n + " 0 5;", 2, at + 4);
                fails(start + "add 0 " + n + " 5;", 2, at + 6);
                fails(start + "negate 9999 9999;", 2, at + 7);
            }
            makes("sequence 1;append 2;negate 1 1;", "1 -2");
            fails("sequence 1 2;remove;negate 1 1;", 2, 27);
        });
        terms("2, a number that is out of its range or does not exist", () -> {
            for (int n : new int[] {1, 2, 3, 5, 40}) {
                String start = Edges.script(Edges.upTo(n)) + "push ";
                int[][] nodes = Edges.nodes(n);
                for (int node = 0; node < 130; node++) {
                    if (nodes[node] == null) {
                        fails(start + node + ";", 2, start.length());
                    } else if (nodes[node][0] == nodes[node][1]) {
                        fails(start + node + ";", 4, start.length() + ("" + node).length());
                    } else {
                        Due.due("runScript() of " + start + node, Due.run(new LazyRangeTree(), start + node + ";"), n);
                    }
                }
                fails(start + "9999;", 2, start.length());
            }
        });
        terms("(also a second INDEX that is less than the first one)", () -> {
            for (String command : new String[] {"assign", "add", "negate"}) {
                String end = command.equals("negate") ? ";" : " 5;";
                int at = 15 + command.length() + 3;
                fails("sequence 1 2 3;" + command + " 1 0" + end, 2, at);
                fails("sequence 1 2 3;" + command + " 2 1" + end, 2, at);
                fails("sequence 1 2 3;" + command + " 2 0" + end, 2, at);
                fails("sequence 1 2 3;" + command + " 1 3" + end, 2, at);
                for (String range : new String[] {" 0 0", " 1 1", " 1 2", " 2 2"}) {
                    Due.due("runScript() with " + command + range, Due.run(new LazyRangeTree(), "sequence 1 2 3;" + command + range + end), 3);
                }
            }
        });
    }

    private static void kind3() {
        terms("3, a 41st value behind \"sequence\" (its number, also behind a hyphen)", () -> {
            String thirtyNine = Edges.script(Edges.upTo(39)).replace(";", "");
            Due.due("runScript() of 39 values", Due.run(new LazyRangeTree(), thirtyNine + ";"), 39);
            Due.due("runScript() of 40 values", Due.run(new LazyRangeTree(), FORTY + ";"), 40);
            Due.due("runScript() of 40 values, the last one behind a hyphen", Due.run(new LazyRangeTree(), thirtyNine + " -40;"), 40);
            fails(FORTY + " 41;", 3, FORTY.length() + 1);
            fails(FORTY + " 0", 3, FORTY.length() + 1);
            fails(FORTY + " -41;", 3, FORTY.length() + 2);
            fails(FORTY + " - 41;", 3, FORTY.length() + 3);
            fails(FORTY + "-41;", 3, FORTY.length() + 1);
            fails(FORTY + " 41 42;", 3, FORTY.length() + 1);
            fails(FORTY + " 41 junk", 3, FORTY.length() + 1);
            fails(FORTY + " -;", 1, FORTY.length() + 2);
            fails(FORTY + " junk;", 1, FORTY.length() + 1);
            fails(FORTY, 1, FORTY.length());
            fails(FORTY + " -", 1, FORTY.length() + 2);
            StringBuilder zeros = new StringBuilder("sequence");
            for (int i = 0; i < 41; i++) {
                zeros.append(" 0");
            }
            fails(zeros + ";", 3, 89);
        });
        terms("3, a 41st value behind \"sequence\"", () -> {
            Due.due("runScript() of an append behind 39 values", Due.run(new LazyRangeTree(), Edges.script(Edges.upTo(39)) + "append 1;"), 40);
            fails(FORTY + ";append 1;", 4, FORTY.length() + 9);
        });
    }

    private static void kind4() {
        String words = "4, the semicolon behind a command whose method would throw an IllegalStateException";
        terms(words, () -> {
            String to999900 = "sequence 9999;repeat 9(repeat 11(add 0 0 9999;););";
            makes(to999900 + "add 0 0 99;", "999999");
            makes(to999900 + "add 0 0 100;", "1000000");
            fails(to999900 + "add 0 0 101;", 4, to999900.length() + 11);
            fails(to999900 + "add 0 0 101  ;", 4, to999900.length() + 13);
            fails(to999900 + "add 0 0 9999;", 4, to999900.length() + 12);
            makes(to999900 + "negate 0 0;add 0 0 -100;", "-1000000");
            fails(to999900 + "negate 0 0;add 0 0 -101;", 4, to999900.length() + 23);
            makes(to999900 + "add 0 0 100;add 0 0 0;add 0 0 -1;", "999999");
            makes(to999900 + "append 5;add 1 1 101;", "999900 106");
            fails(to999900 + "append 5;add 0 1 101;", 4, to999900.length() + 20);
            String lastOf3 = "sequence 5 5 9999;repeat 9(repeat 11(add 2 2 9999;););";
            makes(lastOf3 + "add 0 2 100;", "105 105 1000000");
            fails(lastOf3 + "add 0 2 101;", 4, lastOf3.length() + 11);
            makes(lastOf3 + "add 0 1 101;", "106 106 999900");
            makes(lastOf3 + "negate 2 2;add 0 2 -100;", "-95 -95 -1000000");
            fails(lastOf3 + "negate 2 2;add 0 2 -101;", 4, lastOf3.length() + 23);
        });
        terms(words, () -> {
            fails("sequence 1;push 1;", 4, 17);
            makes("sequence 1 2;push 1;", "1 2");
            fails("sequence 1 2;push 2;", 4, 19);
            fails("sequence 1 2;push 3\n;", 4, 20);
            fails("sequence 1 2 3;push 3;", 4, 21);
            makes("sequence 1 2 3;push 2;", "1 2 3");
            fails("sequence 1 2 3;remove;push 2;", 4, 28);
        });
        terms(words, () -> {
            String thirtyNine = Edges.script(Edges.upTo(39));
            Due.due("runScript() of the 40th element", Due.run(new LazyRangeTree(), thirtyNine + "append 1;"), 40);
            fails(thirtyNine + "append 1;append 1;", 4, thirtyNine.length() + 17);
            fails(FORTY + ";append -1 ;", 4, FORTY.length() + 11);
            Due.due("runScript() of an append behind a remove", Due.run(new LazyRangeTree(), FORTY + ";remove;append 1;"), 40);
        });
        terms(words, () -> {
            makes("sequence 1 2;remove;", "1");
            fails("sequence 1;remove;", 4, 17);
            fails("sequence 1;remove ;", 4, 18);
            fails("sequence 1 2;remove;remove;", 4, 26);
            makes("sequence 1;append 2;remove;", "1");
        });
    }

    private static void kind5() {
        terms("5, the word \"repeat\" inside three other repeats", () -> {
            makes("sequence 0;repeat 1(repeat 1(repeat 1(add 0 0 1;);););", "1");
            fails("sequence 0;repeat 1(repeat 1(repeat 1(repeat 1(add 0 0 1;););););", 5, 38);
            fails("sequence 0;repeat 1(repeat 1(repeat 1(repeat", 5, 38);
            fails("sequence 0;repeat 1(repeat 1(repeat 1(add 0 0 1;repeat 99999", 5, 48);
            makes("sequence 0;repeat 1(repeat 1(repeat 1(add 0 0 1;);repeat 1(add 0 0 1;);););", "2");
            makes("sequence 0;repeat 1(repeat 1(repeat 1(add 0 0 1;););repeat 1(repeat 1(add 0 0 1;);););", "2");
            makes("sequence 0;repeat 1(repeat 1(repeat 1();););repeat 1(repeat 1(repeat 1(add 0 0 1;);););", "1");
            makes("sequence 0;repeat 1();repeat 1();repeat 1();repeat 1(add 0 0 1;);", "1");
            fails("sequence 0;repeat 1();repeat 1(repeat 1();repeat 1(repeat 1();", 1, 62);
            fails("sequence 0;repeat 1();repeat 1(repeat 1();repeat 1(repeat 1(repeat", 5, 60);
        });
    }

    private static void kind6() {
        terms("6, the first word of the command that would be the 201st one to be executed", () -> {
            makes(COMMANDS_199, "199");
            makes(COMMANDS_199 + "add 0 0 1;", "200");
            fails(COMMANDS_199 + "add 0 0 1;add 0 0 1;", 6, COMMANDS_199.length() + 10);
            makes(COMMANDS_200, "200");
            for (String command : new String[] {"assign 0 0 1", "add 0 0 1", "negate 0 0", "push 1", "settle", "append 1", "remove"}) {
                fails(COMMANDS_200 + command + ";", 6, COMMANDS_200.length());
                fails(COMMANDS_200 + " \n" + command + " junk", 6, COMMANDS_200.length() + 2);
            }
            fails("sequence 0;repeat 20(repeat 11(settle;););", 6, 31);
            fails("sequence 0;repeat 20(add 0 0 1;repeat 10(settle;););", 6, 41);
            fails("sequence 0;repeat 20(repeat 10(settle;);add 0 0 1;);", 6, 31);
            fails("sequence 0;repeat 19(repeat 10(settle;);settle;);", 6, 31);
        });
        terms("(a \"repeat\" itself does not count)", () -> {
            makes(COMMANDS_200 + "repeat 20();", "200");
            makes(COMMANDS_200 + "repeat 20(repeat 20(repeat 20();););", "200");
            fails(COMMANDS_200 + "repeat 20(settle;);", 6, COMMANDS_200.length() + 10);
            makes(COMMANDS_199 + "repeat 1(repeat 1(add 0 0 1;););", "200");
            fails(COMMANDS_199 + "repeat 2(add 0 0 1;);", 6, COMMANDS_199.length() + 9);
        });
        terms("one to be executed", () -> {
            String seven = "assign 0 1 1;add 0 1 1;negate 0 1;push 1;settle;append 1;remove;";
            Due.due("runScript() of 196 commands of all kinds and four more",
                    Due.run(new LazyRangeTree(), "sequence 0 0;repeat 14(repeat 2(" + seven + "););settle;settle;settle;settle;"), 2);
            fails("sequence 0 0;repeat 14(repeat 2(" + seven + "););settle;settle;settle;settle;settle;", 6, 128);
        });
    }

    // ---- the promises

    private static LazyRangeTree used() {
        LazyRangeTree x = Due.made("sequence 1 2 3 4;add 0 1 5;negate 0 3;");
        x.saveSnapshot();
        x.negate(0, 0);
        x.writeRange(0, 1);
        return x;
    }

    private static void promise4() {
        Edges.of(4, "Executes the input buffer as a script.", () -> {
            LazyRangeTree x = new LazyRangeTree();
            Due.type(x, "sequence 1 2;remove;");
            x.truncateInput(13);
            Due.due("runScript() of what truncateInput() left", x.runScript(), 2);
            Due.due("runScript() of the empty buffer", x.runScript(), -1);
            Due.due("elements", Due.elements(x), "1 2");
        });
        Edges.of(4, "A script without an error replaces everything: the tree is built from the values, and all counters are 0 before its first command.", () -> {
            LazyRangeTree x = used();
            Due.run(x, "sequence 8 9;");
            Due.due("all", Due.state(x), Due.state(Edges.of(8, 9)));
            Due.due("counters", x.updateCount() + " " + x.pushCount() + " " + x.appliedCount(), "0 0 0");
            Due.due("markedNodes()", x.markedNodes(), 0);
            Due.run(x, "sequence 8 9;add 0 1 1;push 1;");
            Due.due("counters", x.updateCount() + " " + x.pushCount() + " " + x.appliedCount(), "1 1 1");
            Due.run(x, "sequence 1 2 3;negate 0 2;push 1;junk");
            Due.run(x, "sequence 8 9;negate 0 0;");
            Due.due("counters behind a script with an error", x.updateCount() + " " + x.pushCount() + " " + x.appliedCount(), "1 0 1");
            Due.due("all behind a script with an error", Due.state(x), Due.state(Due.made("sequence 8 9;negate 0 0;")));
        });
        Edges.of(4, "The input buffer is empty afterwards in every case.", () -> {
            for (String text : new String[] {"", "sequence 1;", "sequence 1", "junk", "sequence 1;remove;", filled("sequence 1;", 600, ""),
                filled("", 600, "")}) {
                LazyRangeTree x = new LazyRangeTree();
                Due.run(x, text);
                Due.dueArgument("truncateInput(1) behind " + text, () -> x.truncateInput(1));
                Due.due("truncateInput(0)", x.truncateInput(0), 0);
                Due.due("append()", x.append(0, 0, 0, 0, 0), 20);
            }
        });
        Edges.of(4, "If the script has an error, only the input buffer and the script error change.", () -> {
            String[] texts = {"", "junk", "sequence 7", "sequence 7;remove;", "sequence 7 8;negate 0 1;settle;negate 1 0;", "sequence 7 8;append 3;remove;push 9;",
                FORTY + " 41;", "sequence 0;repeat 20(repeat 11(add 0 0 1;););"};
            for (String text : texts) {
                LazyRangeTree x = used();
                String before = Due.state(x);
                Due.due("runScript() of " + text, Due.run(x, text), -1);
                Due.due("all behind " + text, Due.state(x), before);
                Due.due("undoCount()", x.undoCount(), 2);
                Due.due("report", Due.report(x), "6,-7");
                Due.due("undo()", x.undo(), 1);
                Due.due("element(0) behind undo()", x.element(0), -6);
                Due.due("restoreSnapshot()", Due.outcome(x::restoreSnapshot), 4);
                Due.due("elements of the snapshot", Due.elements(x), "-6 -7 -3 -4");
            }
        });
        Edges.of(4, "Returns the number of elements, or NONE if the script has an error.", () -> {
            LazyRangeTree x = new LazyRangeTree();
            Due.due("runScript() of one element", Due.run(x, "sequence 1;"), 1);
            Due.due("runScript() of forty", Due.run(x, FORTY + ";"), 40);
            Due.due("runScript() of two and an append", Due.run(x, "sequence 1 2;append 3;"), 3);
            Due.due("runScript() of two and a remove", Due.run(x, "sequence 1 2;remove;"), 1);
            Due.due("runScript() with an error", Due.run(x, "sequence 1 2;remove"), -1);
            Due.due("elementCount()", x.elementCount(), 1);
        });
    }

    private static void promises16And17() {
        String kind = "Returns the kind (1 to 6) of the error of the latest script, or 0 if it had no error or no script was run.";
        String offset = "Returns the offset of the error of the latest script, or NONE if scriptErrorKind() is 0.";
        String[] texts = {"x", "sequence 1;push 9;", FORTY + " 41;", "sequence 1;remove;", "sequence 1;repeat 1(repeat 1(repeat 1(repeat 1(",
            COMMANDS_200 + "settle;", "sequence 1;"};
        int[] kinds = {1, 2, 3, 4, 5, 6, 0};
        int[] offsets = {0, 16, FORTY.length() + 1, 17, 38, COMMANDS_200.length(), -1};
        Edges.of(16, kind, () -> {
            LazyRangeTree x = new LazyRangeTree();
            Due.due("scriptErrorKind(), no script run", x.scriptErrorKind(), 0);
            for (int i = 0; i < texts.length; i++) {
                Due.run(x, texts[i]);
                Due.due("scriptErrorKind() of " + texts[i], x.scriptErrorKind(), kinds[i]);
            }
            for (int i = texts.length - 1; i >= 0; i--) {
                Due.run(x, texts[i]);
                Due.due("scriptErrorKind() of " + texts[i], x.scriptErrorKind(), kinds[i]);
            }
        });
        Edges.of(17, offset, () -> {
            LazyRangeTree x = new LazyRangeTree();
            Due.due("scriptErrorOffset(), no script run", x.scriptErrorOffset(), -1);
            for (int i = 0; i < texts.length; i++) {
                Due.run(x, texts[i]);
                Due.due("scriptErrorOffset() of " + texts[i], x.scriptErrorOffset(), offsets[i]);
            }
            for (int i = texts.length - 1; i >= 0; i--) {
                Due.run(x, texts[i]);
                Due.due("scriptErrorOffset() of " + texts[i], x.scriptErrorOffset(), offsets[i]);
            }
        });
        Edges.of(16, "of the latest script", () -> {
            LazyRangeTree x = new LazyRangeTree();
            Due.run(x, "sequence 1;remove;");
            Due.type(x, "sequence 1 2 3;");
            x.assign(0, 9, 3);
            x.saveSnapshot();
            x.restoreSnapshot();
            Due.outcome(() -> x.assign(0, 10, 3));
            x.undo();
            Due.due("scriptErrorKind() behind other calls", x.scriptErrorKind(), 4);
            Due.due("scriptErrorOffset() behind other calls", x.scriptErrorOffset(), 17);
            x.truncateInput(0);
            x.runScript();
            Due.due("scriptErrorKind() of the empty text", x.scriptErrorKind(), 1);
            Due.due("scriptErrorOffset() of the empty text", x.scriptErrorOffset(), 0);
        });
    }
}
