import java.lang.reflect.Field;
import java.lang.reflect.Method;
import java.lang.reflect.Modifier;
import java.nio.file.Files;
import java.nio.file.Path;
import java.util.HashSet;
import java.util.Random;
import java.util.Set;
import java.util.regex.Matcher;
import java.util.regex.Pattern;

/** Those rules of LANGUAGE.md that a program can look at; each part is named by the rule's number. */
public final class LanguageTest {
    private static final Path SOURCE = Path.of("src/main/java/AppendOnlyTree.java");
    private static final int[] NUMBERS = {
        0, 1, 2, 3, 4, 5, 6, 7, 8, 9, 14, 15, 16, 17, 30, 31, 32, 33, -1, -2, -32, 255, 512,
        Integer.MIN_VALUE, Integer.MIN_VALUE + 1, Integer.MAX_VALUE - 1, Integer.MAX_VALUE,
    };

    private static final Due due = new Due();

    public static void main(String[] args) throws Exception {
        String code = Files.readString(SOURCE).replaceAll("(?s)/\\*.*?\\*/", "").replaceAll("//.*", "");
        words(code);
        library(code);
        Class<?> face = AppendOnlyTree.class;
        members(face);
        names(face);
        due.part("rule 11: at most some twelve classes");
        due.is("classes", Math.max(12, 1 + face.getDeclaredClasses().length), 12);
        for (Class<?> inside : face.getDeclaredClasses()) {
            due.part("rule 2: static nested classes");
            due.is("static " + inside, Modifier.isStatic(inside.getModifiers()) ? 1 : 0, 1);
            members(inside);
        }
        anyCallInAnyState();
        due.end();
    }

    private static void words(String code) {
        due.part("rules 2, 4, 5 and 6, and that there is no package line");
        String[] words = {
            "\\bpackage\\b", "\\bimport\\s+(?!java\\.util\\.(ArrayList|List|Arrays|Iterator);)", "->", "::",
            "\\bstatic\\s*\\{", "\\bthrows?\\b", "\\btry\\b", "\\bcatch\\b", "\\bsynchronized\\b",
            "\\bassert\\b", "\\bhashCode\\b",
        };
        for (String word : words) {
            due.is("has " + word, Pattern.compile(word).matcher(code).find() ? 1 : 0, 0);
        }
    }

    private static void library(String code) {
        due.part("rule 4: only what stands there");
        Matcher used = Pattern.compile("\\b(Math|Integer|Long|System|Arrays)\\.(\\w+)").matcher(code);
        while (used.find()) {
            boolean listed = used.group().matches("System\\.arraycopy|Arrays\\.(copyOf|copyOfRange|fill)")
                    || used.group().matches("(Math|Integer|Long)\\.\\w+")
                    && !used.group().matches(".*(Exact|random)");
            due.is(used.group(), listed ? 1 : 0, 1);
        }
    }

    private static void members(Class<?> type) {
        int fields = 0;
        for (Field field : type.getDeclaredFields()) {
            if (Modifier.isStatic(field.getModifiers())) {
                due.part("rule 5: static fields are final constants");
                due.is("final " + field, Modifier.isFinal(field.getModifiers()) ? 1 : 0, 1);
                due.is("a constant " + field, isConstantType(field.getType()) ? 1 : 0, 1);
            } else {
                fields++;
            }
        }
        due.part("rule 11: a class has some twenty fields, a method at most seven parameters");
        due.is("fields of " + type, Math.max(20, fields), 20);
        for (Method method : type.getDeclaredMethods()) {
            due.is("parameters of " + method, Math.max(7, method.getParameterCount()), 7);
        }
    }

    private static boolean isConstantType(Class<?> type) {
        Class<?> single = type.isArray() ? type.getComponentType() : type;
        return single.isPrimitive() || type == String.class;
    }

    private static void names(Class<?> face) {
        due.part("rule 1: no private method bears the name of a public one");
        Set<String> open = new HashSet<>();
        for (Method method : face.getMethods()) {
            open.add(method.getName());
        }
        for (Method method : face.getDeclaredMethods()) {
            boolean both = Modifier.isPrivate(method.getModifiers()) && open.contains(method.getName());
            due.is(method.getName(), both ? 1 : 0, 0);
        }
    }

    /** Whatever is answered after the 512th call is free, but no call may throw; if one did, this test would too. */
    private static void anyCallInAnyState() {
        due.part("rule 7: no call may ever throw, for any arguments in any state");
        Random random = new Random(7);
        for (int run = 0; run < 200; run++) {
            AppendOnlyTree tree = new AppendOnlyTree(NUMBERS[random.nextInt(NUMBERS.length)]);
            int numbers = run % 2 == 0 ? NUMBERS.length : 9;
            for (int call = 0; call < 5000; call++) {
                call(tree, random.nextInt(16), numbers, random);
            }
            due.is("LIVE is not above LIMIT", Math.max(tree.count(0), tree.count(5)), tree.count(5));
        }
    }

    private static void call(AppendOnlyTree tree, int kind, int numbers, Random random) {
        int a = NUMBERS[random.nextInt(numbers)];
        int b = NUMBERS[random.nextInt(numbers)];
        int c = NUMBERS[random.nextInt(numbers)];
        int d = NUMBERS[random.nextInt(numbers)];
        switch (kind) {
            case 0 -> tree.link(a, b, c);
            case 1 -> tree.remove(a, b);
            case 2 -> tree.rename(a, b, c, d);
            case 3, 4 -> tree.write(a, b, c);
            case 5 -> tree.cut(a, b);
            case 6 -> tree.sync();
            case 7 -> tree.crash(a);
            case 8 -> tree.find(a, b);
            case 9 -> tree.entry(a, b);
            case 10 -> tree.read(a, b);
            case 11 -> tree.tell(a, b);
            case 12 -> tree.count(a);
            default -> tree.create(a, b, c % 2 == 0);
        }
    }
}
