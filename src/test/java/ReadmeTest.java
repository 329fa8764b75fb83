import java.lang.reflect.Field;
import java.lang.reflect.Method;
import java.lang.reflect.Modifier;
import java.nio.file.Files;
import java.nio.file.Path;
import java.util.HashMap;
import java.util.List;
import java.util.Map;
import java.util.TreeMap;
import java.util.TreeSet;
import java.util.regex.Matcher;
import java.util.regex.Pattern;

/**
 * Makes the calls that README.md shows and looks for the answers that it shows. The calls are read from the file
 * itself, so that it can't say one thing and the test another; a line that can't be read is wrong.
 */
public final class ReadmeTest {
    private static final Pattern MADE = Pattern.compile("AppendOnlyTree tree = new AppendOnlyTree\\((-?\\d+)\\);");
    private static final Pattern CALL = Pattern.compile(
            "(?:(int|long) (\\w+) = )?tree\\.(\\w+)\\(([^()]*)\\); +// ([A-Z_]+|-?\\d+)(?:: .+)?");
    private static final Pattern METHOD_ROW = Pattern.compile("\\| `(\\w+)\\(([^()]*)\\)` \\|.*");
    private static final Pattern CONSTANT_ROW = Pattern.compile("\\| `([A-Z_]+)` \\| (-?\\d+) \\|.*");
    private static final int MOST_CALLS = 512;

    private static final Due due = new Due();

    private final Map<String, Method> methods = new TreeMap<>();
    private final Map<String, Long> constants = new TreeMap<>();
    private final TreeSet<String> called = new TreeSet<>();
    private final Map<String, Integer> variables = new HashMap<>();
    private AppendOnlyTree tree = null;
    private int calls = 0;

    private ReadmeTest() throws IllegalAccessException {
        for (Method method : AppendOnlyTree.class.getDeclaredMethods()) {
            if (Modifier.isPublic(method.getModifiers())) {
                methods.put(method.getName(), method);
            }
        }
        for (Field field : AppendOnlyTree.class.getDeclaredFields()) {
            if (Modifier.isPublic(field.getModifiers())) {
                constants.put(field.getName(), field.getLong(null));
            }
        }
    }

    public static void main(String[] args) throws Exception {
        List<String> lines = Files.readAllLines(Path.of("README.md"));
        ReadmeTest test = new ReadmeTest();
        test.makeTheCalls(lines);
        test.lookForTheMethods(lines);
        test.lookForTheConstants(lines);
        lookForTheWords(String.join(" ", lines));
        due.end();
    }

    private void makeTheCalls(List<String> lines) throws Exception {
        boolean inside = false;
        for (int k = 0; k < lines.size(); k++) {
            String line = lines.get(k);
            due.part("README.md, line " + (k + 1));
            if (line.startsWith("```")) {
                inside = line.equals("```java");
                tree = null;
                variables.clear();
            } else if (inside) {
                make(line);
            }
        }
        due.part("README.md");
        due.same("the methods of the calls", called.toString(), methods.keySet().toString());
    }

    private void make(String line) throws Exception {
        Matcher made = MADE.matcher(line);
        if (made.matches()) {
            tree = new AppendOnlyTree(Integer.parseInt(made.group(1)));
            calls = 0;
            return;
        }
        Matcher call = CALL.matcher(line);
        boolean readable = tree != null && call.matches() && methods.containsKey(call.group(3));
        due.is("a call that can be read: " + line, readable ? 1 : 0, 1);
        if (readable) {
            call(call);
        }
    }

    private void call(Matcher call) throws Exception {
        Method method = methods.get(call.group(3));
        Object[] arguments = arguments(call.group(4));
        due.is("arguments of " + call.group(), arguments.length, method.getParameterCount());
        if (arguments.length != method.getParameterCount()) {
            return;
        }
        long answer = ((Number) method.invoke(tree, arguments)).longValue();
        due.is(call.group(), answer, value(call.group(5)));
        if (call.group(1) != null) {
            due.same("the type of " + call.group(2), call.group(1), method.getReturnType().getName());
            variables.put(call.group(2), (int) answer);
        }
        called.add(method.getName());
        calls++;
        due.is("calls of one object, at most 512", Math.max(calls, MOST_CALLS), MOST_CALLS);
    }

    private Object[] arguments(String text) {
        String[] words = text.isEmpty() ? new String[0] : text.split(", ");
        Object[] arguments = new Object[words.length];
        for (int k = 0; k < words.length; k++) {
            arguments[k] = argument(words[k]);
        }
        return arguments;
    }

    private Object argument(String word) {
        if (word.equals("true") || word.equals("false")) {
            return word.equals("true");
        }
        return variables.containsKey(word) ? variables.get(word) : Integer.valueOf(word);
    }

    private long value(String word) {
        return constants.containsKey(word) ? constants.get(word) : Long.parseLong(word);
    }

    private void lookForTheMethods(List<String> lines) {
        due.part("README.md, the rows of the methods");
        TreeSet<String> rows = new TreeSet<>();
        for (String line : lines) {
            Matcher row = METHOD_ROW.matcher(line);
            if (row.matches()) {
                due.is("two rows of " + row.group(1), rows.add(row.group(1)) ? 0 : 1, 0);
                Method method = methods.get(row.group(1));
                int parameters = row.group(2).isEmpty() ? 0 : row.group(2).split(", ").length;
                due.is("parameters of " + row.group(1), parameters, method == null ? -1 : method.getParameterCount());
            }
        }
        due.same("the methods", rows.toString(), methods.keySet().toString());
    }

    private void lookForTheConstants(List<String> lines) {
        due.part("README.md, the rows of the constants");
        Map<String, Long> rows = new TreeMap<>();
        for (String line : lines) {
            Matcher row = CONSTANT_ROW.matcher(line);
            if (row.matches()) {
                rows.put(row.group(1), Long.valueOf(row.group(2)));
            }
        }
        due.same("the constants", rows.toString(), constants.toString());
    }

    private static void lookForTheWords(String text) {
        due.part("README.md");
        String[] words = {"`new AppendOnlyTree(segments)`", "at most 512 calls", "### A sync", "### A crash", ".ci/run"};
        for (String word : words) {
            due.is("has the words " + word, text.contains(word) ? 1 : 0, 1);
        }
    }
}
