import java.lang.reflect.Field;
import java.lang.reflect.Method;
import java.lang.reflect.Modifier;
import java.util.Arrays;
import java.util.List;
import java.util.TreeSet;

/** The public face is the document's, with its values, and nothing else of the class can be seen. */
public final class FaceTest {
    private static final List<String> CONSTANTS = List.of(
            "int DONE 0", "int REFUSED -1", "int ABSENT -2", "int EXISTS -3", "int NOT_EMPTY -4",
            "int FULL -5", "int NO_ROOM -6", "long NONE 1000000000000");
    private static final List<String> METHODS = List.of(
            "int create [int, int, boolean]", "int link [int, int, int]", "int remove [int, int]",
            "int rename [int, int, int, int]", "int write [int, int, int]", "int cut [int, int]",
            "int sync []", "int crash [int]", "int find [int, int]", "int entry [int, int]",
            "long read [int, int]", "int tell [int, int]", "int count [int]");

    private static final Due due = new Due();

    public static void main(String[] args) throws Exception {
        due.part("the face");
        Class<?> type = AppendOnlyTree.class;
        due.is("public and final", type.getModifiers(), Modifier.PUBLIC | Modifier.FINAL);
        same("constants", constants(type), CONSTANTS);
        same("methods", methods(type), METHODS);
        due.is("constructors", type.getDeclaredConstructors().length, 1);
        due.is("public constructor of an int", type.getConstructor(int.class).getModifiers(), Modifier.PUBLIC);
        due.end();
    }

    private static void same(String what, TreeSet<String> got, List<String> want) {
        boolean same = got.equals(new TreeSet<>(want));
        if (!same) {
            System.out.println(what + ": " + got + ", due are " + want);
        }
        due.is(what, same ? 1 : 0, 1);
    }

    private static TreeSet<String> constants(Class<?> type) throws IllegalAccessException {
        TreeSet<String> seen = new TreeSet<>();
        for (Field field : type.getDeclaredFields()) {
            int modifiers = field.getModifiers();
            if (modifiers == (Modifier.PUBLIC | Modifier.STATIC | Modifier.FINAL)) {
                seen.add(field.getType() + " " + field.getName() + " " + field.get(null));
            } else if (!Modifier.isPrivate(modifiers)) {
                seen.add("not private: " + field);
            }
        }
        return seen;
    }

    private static TreeSet<String> methods(Class<?> type) {
        TreeSet<String> seen = new TreeSet<>();
        for (Method method : type.getDeclaredMethods()) {
            int modifiers = method.getModifiers();
            if (modifiers == Modifier.PUBLIC) {
                seen.add(method.getReturnType() + " " + method.getName() + " "
                        + Arrays.toString(method.getParameterTypes()));
            } else if (!Modifier.isPrivate(modifiers)) {
                seen.add("not private: " + method);
            }
        }
        return seen;
    }
}
