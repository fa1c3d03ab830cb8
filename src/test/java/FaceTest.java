import java.lang.reflect.Constructor;
import java.lang.reflect.Field;
import java.lang.reflect.Method;
import java.lang.reflect.Modifier;
import java.util.ArrayList;
import java.util.Collections;
import java.util.HashSet;
import java.util.List;
import java.util.Set;

/** The public face is the document's, and nothing else of the class can be seen from outside. */
public final class FaceTest {
    private static final String[] FACE = {
        "int append(int, int, int, int, int)",
        "int truncateInput(int) throws IllegalArgumentException",
        "int runScript()",
        "int assign(int, int, int) throws IndexOutOfBoundsException, IllegalArgumentException",
        "int add(int, int, int) throws IndexOutOfBoundsException, IllegalArgumentException, IllegalStateException",
        "int negate(int, int) throws IndexOutOfBoundsException, IllegalArgumentException",
        "boolean pushDown(int) throws IndexOutOfBoundsException, IllegalStateException",
        "int pushAll()",
        "int appendElement(int) throws IllegalArgumentException, IllegalStateException",
        "int removeLast() throws IllegalStateException",
        "int undo()",
        "int undoCount()",
        "int saveSnapshot()",
        "int restoreSnapshot() throws NoSuchElementException",
        "int scriptErrorKind()",
        "int scriptErrorOffset()",
        "int elementCount()",
        "int element(int) throws IndexOutOfBoundsException",
        "long sum(int, int) throws IndexOutOfBoundsException, IllegalArgumentException",
        "int least(int, int) throws IndexOutOfBoundsException, IllegalArgumentException",
        "int greatest(int, int) throws IndexOutOfBoundsException, IllegalArgumentException",
        "int firstLeast(int, int) throws IndexOutOfBoundsException, IllegalArgumentException",
        "int firstGreatest(int, int) throws IndexOutOfBoundsException, IllegalArgumentException",
        "int leastCount(int, int) throws IndexOutOfBoundsException, IllegalArgumentException",
        "int greatestCount(int, int) throws IndexOutOfBoundsException, IllegalArgumentException",
        "int runCount(int, int) throws IndexOutOfBoundsException, IllegalArgumentException",
        "boolean isAscending(int, int) throws IndexOutOfBoundsException, IllegalArgumentException",
        "boolean isDescending(int, int) throws IndexOutOfBoundsException, IllegalArgumentException",
        "int steepestStep(int, int) throws IndexOutOfBoundsException, IllegalArgumentException",
        "double mean(int, int) throws IndexOutOfBoundsException, IllegalArgumentException",
        "float greatestShare(int, int) throws IndexOutOfBoundsException, IllegalArgumentException",
        "int firstAtLeast(int, int) throws IndexOutOfBoundsException",
        "int firstBelow(int, int) throws IndexOutOfBoundsException",
        "int lastAtLeast(int, int) throws IndexOutOfBoundsException",
        "int longestRun(int)",
        "int occurrence(int, int)",
        "int prefixAtLeast(long)",
        "int distinctCount(int, int) throws IndexOutOfBoundsException, IllegalArgumentException",
        "int nodeCount()",
        "int depth()",
        "int leafOf(int) throws IndexOutOfBoundsException",
        "boolean isLeaf(int) throws IndexOutOfBoundsException",
        "int firstIndex(int) throws IndexOutOfBoundsException",
        "int lastIndex(int) throws IndexOutOfBoundsException",
        "long storedSum(int) throws IndexOutOfBoundsException",
        "int storedLeast(int) throws IndexOutOfBoundsException",
        "int storedGreatest(int) throws IndexOutOfBoundsException",
        "int markFactor(int) throws IndexOutOfBoundsException",
        "int markOffset(int) throws IndexOutOfBoundsException",
        "int markedNodes()",
        "int marksAbove(int) throws IndexOutOfBoundsException",
        "int appliedFor(int, int) throws IndexOutOfBoundsException, IllegalArgumentException",
        "int appliedNode(int, int, int) throws IndexOutOfBoundsException, IllegalArgumentException",
        "int visitedFor(int, int) throws IndexOutOfBoundsException, IllegalArgumentException",
        "int pushesFor(int, int) throws IndexOutOfBoundsException, IllegalArgumentException",
        "boolean canAdd(int, int, int) throws IndexOutOfBoundsException, IllegalArgumentException",
        "int greatestAddition(int, int) throws IndexOutOfBoundsException, IllegalArgumentException",
        "long totalIfAssigned(int, int, int) throws IndexOutOfBoundsException, IllegalArgumentException",
        "int updateCount()",
        "int pushCount()",
        "int appliedCount()",
        "int violations()",
        "int writeRange(int, int) throws IndexOutOfBoundsException, IllegalArgumentException",
        "int reportByte(int)"};

    public static void main(String[] args) {
        methods();
        fieldsAndConstructors();
        namesOfPrivateMethods();
        staticFields(LazyRangeTree.class);
        Due.close();
    }

    private static String names(Class<?>[] types) {
        StringBuilder all = new StringBuilder();
        for (Class<?> type : types) {
            all.append(all.length() == 0 ? "" : ", ").append(type.getSimpleName());
        }
        return all.toString();
    }

    private static void methods() {
        List<String> seen = new ArrayList<>();
        for (Method method : LazyRangeTree.class.getDeclaredMethods()) {
            if (!Modifier.isPrivate(method.getModifiers())) {
                String thrown = names(method.getExceptionTypes());
                seen.add(method.getReturnType().getSimpleName() + " " + method.getName() + "("
                        + names(method.getParameterTypes()) + ")" + (thrown.isEmpty() ? "" : " throws " + thrown));
                Due.due(method.getName(), Modifier.toString(method.getModifiers()), "public");
            }
        }
        List<String> wanted = new ArrayList<>(List.of(FACE));
        Collections.sort(seen);
        Collections.sort(wanted);
        Due.due("methods", seen, wanted);
    }

    private static void fieldsAndConstructors() {
        Due.due("class", Modifier.toString(LazyRangeTree.class.getModifiers()), "public final");
        Due.due("interfaces", LazyRangeTree.class.getInterfaces().length, 0);
        Due.due("superclass", LazyRangeTree.class.getSuperclass(), Object.class);
        for (Field field : LazyRangeTree.class.getDeclaredFields()) {
            boolean none = field.getName().equals("NONE");
            Due.due("field " + field.getName(), Modifier.isPrivate(field.getModifiers()), !none);
            if (none) {
                Due.due("NONE", Modifier.toString(field.getModifiers()), "public static final");
            }
        }
        Constructor<?>[] constructors = LazyRangeTree.class.getDeclaredConstructors();
        Due.due("constructors", constructors.length, 1);
        Due.due("its parameters", constructors[0].getParameterCount(), 0);
        Due.due("its modifiers", Modifier.toString(constructors[0].getModifiers()), "public");
    }

    private static void namesOfPrivateMethods() {
        Set<String> face = new HashSet<>();
        for (Method method : LazyRangeTree.class.getMethods()) {
            face.add(method.getName());
        }
        for (Class<?> inside : LazyRangeTree.class.getDeclaredClasses()) {
            Due.due("inside is static", Modifier.isStatic(inside.getModifiers()), true);
            Due.due("inside is hidden", Modifier.isPublic(inside.getModifiers()) || Modifier.isProtected(inside.getModifiers()), false);
            for (Method method : inside.getDeclaredMethods()) {
                Due.due("name of the face: " + method.getName(), face.contains(method.getName()), false);
            }
            staticFields(inside);
        }
        for (Method method : LazyRangeTree.class.getDeclaredMethods()) {
            if (Modifier.isPrivate(method.getModifiers())) {
                Due.due("name of the face: " + method.getName(), face.contains(method.getName()), false);
            }
        }
    }

    private static void staticFields(Class<?> type) {
        for (Field field : type.getDeclaredFields()) {
            if (Modifier.isStatic(field.getModifiers())) {
                Due.due("static is final: " + field.getName(), Modifier.isFinal(field.getModifiers()), true);
            }
        }
    }
}
