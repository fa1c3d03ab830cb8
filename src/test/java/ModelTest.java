import java.lang.reflect.InvocationTargetException;
import java.lang.reflect.Method;
import java.util.ArrayList;
import java.util.Comparator;
import java.util.List;

/** Promises 1 to 65: long runs of all calls, each answer and exception compared with the model's. */
public final class ModelTest {
    private static final int RUNS = 400;
    private static final int CALLS = 512;
    private static final String[] CHANGES = {"assign", "add", "negate", "pushDown", "pushAll",
        "appendElement", "removeLast", "undo", "saveSnapshot", "restoreSnapshot", "SCRIPT"};

    private static long seed;
    private static final int[] KINDS = new int[7];
    private static int wrong = 0;

    public static void main(String[] args) throws Exception {
        List<Method> methods = new ArrayList<>();
        for (Method method : LazyRangeTree.class.getDeclaredMethods()) {
            if (java.lang.reflect.Modifier.isPublic(method.getModifiers())) {
                methods.add(method);
            }
        }
        methods.sort(Comparator.comparing(Method::getName));
        int runs = args.length > 0 ? Integer.parseInt(args[0]) : RUNS;
        for (int run = 0; run < runs && wrong < 20; run++) {
            seed = 7919L * run + 1;
            oneRun(run, methods);
        }
        StringBuilder kinds = new StringBuilder();
        for (int kind = 0; kind < 7; kind++) {
            kinds.append(" ").append(KINDS[kind]);
            if (KINDS[kind] == 0) {
                wrong++;
                System.out.println("no script ended with kind " + kind);
            }
        }
        System.out.println(runs + " runs, scripts by their error kind:" + kinds + ", " + wrong + " answers not as due");
        if (wrong != 0) {
            System.exit(1);
        }
    }

    private static void oneRun(int run, List<Method> methods) throws Exception {
        LazyRangeTree x = new LazyRangeTree();
        Model model = new Model();
        StringBuilder log = new StringBuilder();
        int calls = 0;
        boolean still = true;
        while (calls < CALLS && still) {
            boolean change = below(3) == 0;
            String name = change ? CHANGES[below(CHANGES.length)] : "";
            if (name.equals("SCRIPT")) {
                if (calls + 33 < CALLS && below(3) == 0) {
                    calls += script(x, model, log);
                }
                continue;
            }
            Method method = null;
            for (Method each : methods) {
                if (each.getName().equals(name)) {
                    method = each;
                }
            }
            if (method == null) {
                method = methods.get(below(methods.size()));
            }
            still = same(run, x, model, method, arguments(method, model), log);
            calls++;
        }
    }

    private static boolean same(int run, LazyRangeTree x, Model model, Method method, Object[] arguments,
            StringBuilder log) throws Exception {
        Method other = Model.class.getMethod(method.getName(), method.getParameterTypes());
        Object got = answer(x, method, arguments);
        Object want = answer(model, other, arguments);
        log.append(method.getName()).append(java.util.Arrays.toString(arguments)).append(' ').append(got).append('\n');
        if (got.equals(want)) {
            return true;
        }
        wrong++;
        System.out.println("run " + run + ": the last call is due " + want + "\n" + log);
        return false;
    }

    private static Object answer(Object object, Method method, Object[] arguments) throws Exception {
        try {
            return method.invoke(object, arguments);
        } catch (InvocationTargetException e) {
            return "throws " + e.getCause().getClass().getSimpleName();
        }
    }

    private static int script(LazyRangeTree x, Model model, StringBuilder log) {
        String text = ModelTest.text();
        log.append("script ").append(text).append('\n');
        int calls = 0;
        for (int start = 0; start < text.length(); start += 20) {
            int[] words = new int[5];
            for (int i = 0; i < 20; i++) {
                words[i / 4] = words[i / 4] << 8 | (start + i < text.length() ? text.charAt(start + i) : 0);
            }
            dueSame("append", log, x.append(words[0], words[1], words[2], words[3], words[4]),
                    model.append(words[0], words[1], words[2], words[3], words[4]));
            calls++;
        }
        int length = Math.min(text.length(), 600);
        dueSame("truncateInput", log, x.truncateInput(length), model.truncateInput(length));
        dueSame("runScript", log, x.runScript(), model.runScript());
        dueSame("scriptErrorKind", log, x.scriptErrorKind(), model.scriptErrorKind());
        dueSame("scriptErrorOffset", log, x.scriptErrorOffset(), model.scriptErrorOffset());
        KINDS[model.scriptErrorKind()]++;
        return calls + 4;
    }

    private static void dueSame(String name, StringBuilder log, int got, int want) {
        if (got != want) {
            wrong++;
            System.out.println(name + " answered " + got + ", due is " + want + "\n" + log);
        }
    }

    // ---- arguments, for the most part such as a call does not refuse

    private static Object[] arguments(Method method, Model model) {
        int n = model.elementCount();
        String name = method.getName();
        int count = method.getParameterCount();
        Object[] arguments = new Object[count];
        if (count == 0) {
            return arguments;
        }
        int from = index(n);
        for (int i = 0; i < count; i++) {
            arguments[i] = i == 0 ? from : value(model);
        }
        if (name.equals("prefixAtLeast")) {
            long near = model.sum(0, below(n));
            arguments[0] = below(8) == 0 ? (below(2) == 0 ? Long.MIN_VALUE : Long.MAX_VALUE) : near + below(3) - 1;
        } else if (isOfRange(name) && count >= 2) {
            arguments[1] = from >= 0 && from < n && below(12) != 0 ? from + below(n - from) : index(n);
            if (name.equals("appliedNode")) {
                arguments[2] = below(11) - 1;
            }
        } else if (name.equals("truncateInput") || name.equals("reportByte")) {
            arguments[0] = below(30) - 1;
        } else if (name.equals("longestRun") || name.equals("occurrence") || name.equals("appendElement")) {
            arguments[0] = value(model);
            if (count == 2) {
                arguments[1] = below(6) - 1;
            }
        } else if (isOfNode(name)) {
            arguments[0] = below(20) == 0 ? value(model) : below(4) == 0 ? below(130) - 1 : 1 + below(n);
        }
        return arguments;
    }

    private static boolean isOfRange(String name) {
        return !name.equals("firstAtLeast") && !name.equals("firstBelow") && !name.equals("lastAtLeast")
                && !name.equals("occurrence") && !name.equals("append");
    }

    private static boolean isOfNode(String name) {
        return name.startsWith("stored") || name.startsWith("mark") && !name.equals("marksAbove")
                || name.equals("isLeaf") || name.equals("firstIndex") || name.equals("lastIndex")
                || name.equals("pushDown");
    }

    private static int index(int n) {
        switch (below(24)) {
            case 0: return -1 - below(3);
            case 1: return n + below(3);
            case 2: return below(2) == 0 ? Integer.MIN_VALUE : Integer.MAX_VALUE;
            default: return below(n);
        }
    }

    private static int value(Model model) {
        int[] edges = {0, 1, -1, 9999, -9999, 10000, -10000, Integer.MIN_VALUE, Integer.MAX_VALUE, 1000000};
        switch (below(5)) {
            case 0: return edges[below(edges.length)];
            case 1: return below(7) - 3;
            case 2: return below(19999) - 9999;
            case 3: return below(2) == 0 ? 9999 : -9999;
            default: return model.element(below(model.elementCount()));
        }
    }

    // ---- scripts

    private static String text() {
        StringBuilder text = new StringBuilder("sequence");
        int n = below(10) == 0 ? 38 + below(5) : 1 + below(below(2) == 0 ? 6 : 40);
        for (int i = 0; i < n; i++) {
            text.append(gap()).append(signed());
        }
        text.append(';');
        int commands = below(8);
        for (int i = 0; i < commands; i++) {
            command(text, n, 0);
        }
        int faults = below(3) == 0 ? 1 + below(2) : 0;
        for (int i = 0; i < faults; i++) {
            spoil(text);
        }
        if (text.length() > 600) {
            text.setLength(600);
        }
        return text.toString();
    }

    private static void command(StringBuilder text, int n, int repeats) {
        text.append(below(4) == 0 ? "\n" : "");
        switch (below(repeats < 4 ? 9 : 7)) {
            case 0: text.append("settle"); break;
            case 1: text.append("remove"); break;
            case 2: text.append("append").append(gap()).append(signed()); break;
            case 3: text.append("push").append(gap()).append(below(6) == 0 ? below(130) : 1 + below(Math.max(1, n - 1))); break;
            case 4: text.append("negate").append(range(n)); break;
            case 5: text.append("assign").append(range(n)).append(gap()).append(signed()); break;
            case 6: text.append("add").append(range(n)).append(gap()).append(signed()); break;
            default:
                text.append("repeat").append(gap()).append(below(10) == 0 ? below(23) : 1 + below(20)).append('(');
                int commands = below(4);
                for (int i = 0; i < commands; i++) {
                    command(text, n, repeats + 1);
                }
                text.append(gap()).append(')');
        }
        text.append(';');
    }

    private static String range(int n) {
        int from = below(30) == 0 ? below(41) : below(n);
        int to = below(30) == 0 || from >= n ? below(41) : from + below(n - from);
        return " " + from + " " + to;
    }

    private static String signed() {
        String number = below(3) == 0 ? "9999" : below(4) == 0 ? "000" + below(10) : "" + below(below(2) == 0 ? 4 : 10000);
        return (below(3) == 0 ? "-" + (below(5) == 0 ? " " : "") : "") + number;
    }

    private static String gap() {
        return below(8) == 0 ? " \n " : " ";
    }

    private static void spoil(StringBuilder text) {
        String signs = "0123456789abz-(); \nA,.#\u00ff\u0000\t";
        int at = below(text.length());
        char sign = signs.charAt(below(signs.length()));
        switch (below(4)) {
            case 0: text.deleteCharAt(at); break;
            case 1: text.insert(at, sign); break;
            case 2: text.setCharAt(at, sign); break;
            default: text.setLength(at + 1);
        }
    }

    // ---- the same numbers in every run, from a linear congruence

    private static int below(int bound) {
        seed = seed * 6364136223846793005L + 1442695040888963407L;
        return (int) ((seed >>> 33) % bound);
    }
}
