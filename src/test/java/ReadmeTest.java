import java.lang.reflect.InvocationTargetException;
import java.lang.reflect.Method;
import java.lang.reflect.Modifier;
import java.nio.file.Files;
import java.nio.file.Path;
import java.util.HashMap;
import java.util.List;
import java.util.Map;
import java.util.Set;
import java.util.TreeSet;
import java.util.regex.Matcher;
import java.util.regex.Pattern;
import java.util.stream.Collectors;
import java.util.stream.Stream;

/**
 * README.md holds what it says: the calls that it shows are made, in their order, and answer what stands behind them;
 * the methods of one's own that it shows are the ones below; it lists every test.
 */
public final class ReadmeTest {
    private static final int MOST_CALLS = 512;
    private static final Pattern MAKING = Pattern.compile("FlatTables x = new FlatTables\\(\\);");
    private static final Pattern TAPING = Pattern.compile("tape\\(x, \"([^\"]*)\"\\);");
    private static final Pattern CALL = Pattern.compile(
        "(?:(int|long|boolean) (\\w+) = )?x\\.(\\w+)\\(([^()]*)\\);(?: +// (.*))?");
    private static final Pattern SAID = Pattern.compile("(throws \\w+|true|false|-?\\d+)(?:: .+)?");

    private static FlatTables x = null;
    private static int calls = 0;
    private static final Map<String, Object> variables = new HashMap<>();
    private static final Set<String> shown = new TreeSet<>();

    public static void main(String[] args) throws Exception {
        List<String> lines = Files.readAllLines(Path.of("README.md"));
        runBlocks(lines);
        theTapesRoom();
        everyCallIsShown();
        everyTestIsListed(String.join("\n", lines));
        Check.end();
    }

    // ---- the methods of one's own that README.md shows

    /** The text comes behind what is on the tape; false, and perhaps only a part of it comes, if there is no room. */
    static boolean tape(FlatTables x, String text) {
        int length = x.count(0) + text.length();
        for (int i = 0; i < text.length(); i += 20) {
            x.feed(four(text, i), four(text, i + 4), four(text, i + 8), four(text, i + 12), four(text, i + 16));
        }
        return x.end(length);
    }

    /** Four signs as one number; signs behind the end are 0. */
    static int four(String text, int first) {
        int number = 0;
        for (int i = first; i < first + 4; i++) {
            number = number << 8 | (i < text.length() ? text.charAt(i) & 255 : 0);
        }
        return number;
    }

    // ---- the blocks of Java

    private static void runBlocks(List<String> lines) throws Exception {
        String own = Files.readString(Path.of("src/test/java/ReadmeTest.java"));
        StringBuilder methods = new StringBuilder();
        boolean isJava = false;
        boolean isOfMethods = false;
        for (int i = 0; i < lines.size(); i++) {
            String line = lines.get(i);
            if (line.startsWith("```")) {
                isJava = line.equals("```java");
                isOfMethods = isJava && i + 1 < lines.size() && lines.get(i + 1).startsWith("/**");
            } else if (isOfMethods) {
                methods.append(line.isEmpty() ? "" : "    ").append(line).append('\n');
            } else if (isJava) {
                run("README.md, line " + (i + 1) + ", " + line.trim(), line.trim());
            }
        }
        Check.same("README.md's methods are those of this test", true,
            () -> methods.length() > 0 && own.contains(methods));
    }

    private static void theTapesRoom() {
        Check.same("a text that fills the tape", true, () -> tape(new FlatTables(), "a".repeat(4000)));
        Check.same("one sign more", false, () -> tape(new FlatTables(), "a".repeat(4001)));
    }

    private static void run(String where, String line) throws Exception {
        Matcher taping = TAPING.matcher(line);
        Matcher call = CALL.matcher(line);
        if (MAKING.matcher(line).matches()) {
            x = new FlatTables();
            calls = 0;
            variables.clear();
        } else if (taping.matches()) {
            String text = taping.group(1).replace("\\n", "\n");
            calls += 2 + (text.length() + 19) / 20;
            Check.same(where, true, () -> tape(x, text));
        } else if (call.matches()) {
            calls++;
            runCall(where, call);
        } else if (!line.isEmpty() && !line.startsWith("//")) {
            Check.broken(where + ": this test doesn't understand it");
        }
        if (calls > MOST_CALLS) {
            Check.broken(where + ": more than 512 calls on one object");
        }
    }

    private static void runCall(String where, Matcher call) throws Exception {
        Method method = methodNamed(call.group(3));
        if (method == null) {
            Check.broken(where + ": no call of the face");
            return;
        }
        shown.add(method.getName());
        Object answer = answerOf(method, arguments(method, call.group(4)));
        Check.same(where, said(method, call.group(5)), () -> String.valueOf(answer));
        if (call.group(1) != null) {
            Check.same(where + ": its type", call.group(1), () -> method.getReturnType().getSimpleName());
            Check.same(where + ": a new name", null, () -> variables.put(call.group(2), answer));
        }
    }

    private static Method methodNamed(String name) {
        for (Method method : FlatTables.class.getDeclaredMethods()) {
            if (Modifier.isPublic(method.getModifiers()) && method.getName().equals(name)) {
                return method;
            }
        }
        return null;
    }

    private static Object[] arguments(Method method, String words) {
        String[] each = words.isEmpty() ? new String[0] : words.split(", ");
        Class<?>[] types = method.getParameterTypes();
        Object[] arguments = new Object[each.length];
        for (int i = 0; i < each.length; i++) {
            Class<?> type = i < types.length ? types[i] : void.class;
            if (type == boolean.class) {
                arguments[i] = Boolean.valueOf(each[i]);
            } else {
                Object known = variables.get(each[i]);
                long number = known == null ? Long.decode(each[i]) : ((Number) known).longValue();
                arguments[i] = type == long.class ? (Object) number : (Object) (int) number;
            }
        }
        return arguments;
    }

    private static Object answerOf(Method method, Object[] arguments) throws Exception {
        try {
            return method.invoke(x, arguments);
        } catch (InvocationTargetException e) {
            return "throws " + e.getCause().getClass().getSimpleName();
        }
    }

    /** The answer that is due; what has none may have other words behind it. */
    private static String said(Method method, String words) {
        Matcher said = SAID.matcher(words == null ? "" : words);
        if (said.matches()) {
            return said.group(1);
        }
        return method.getReturnType() == void.class ? "null" : "what README.md doesn't say";
    }

    // ---- what README.md must not leave out

    private static void everyCallIsShown() {
        Set<String> face = new TreeSet<>();
        for (Method method : FlatTables.class.getDeclaredMethods()) {
            if (Modifier.isPublic(method.getModifiers())) {
                face.add(method.getName());
            }
        }
        Check.same("the calls that README.md shows", face, () -> shown);
    }

    private static void everyTestIsListed(String readme) throws Exception {
        Set<String> listed = new TreeSet<>();
        Matcher row = Pattern.compile("(?m)^\\| `(\\w+Test)` \\|").matcher(readme);
        while (row.find()) {
            listed.add(row.group(1));
        }
        try (Stream<Path> files = Files.list(Path.of("src/test/java"))) {
            Set<String> tests = files.map(file -> file.getFileName().toString())
                .filter(name -> name.endsWith("Test.java")).map(name -> name.replace(".java", ""))
                .collect(Collectors.toCollection(TreeSet::new));
            Check.same("the tests that README.md lists", tests, () -> listed);
        }
    }
}
