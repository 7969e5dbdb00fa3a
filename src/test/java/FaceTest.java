import java.lang.reflect.Constructor;
import java.lang.reflect.Field;
import java.lang.reflect.Method;
import java.lang.reflect.Modifier;
import java.nio.file.Files;
import java.nio.file.Path;
import java.util.ArrayList;
import java.util.Arrays;
import java.util.List;
import java.util.Set;
import java.util.TreeSet;
import java.util.regex.Matcher;
import java.util.regex.Pattern;

/** The public face is the document's, and what LANGUAGE.md rules out is not in the file. */
public final class FaceTest {
    private static final Path DOCUMENT = Path.of("../shared/DOC.md");
    private static final String[] FACE = {
        "feed(int,int,int,int,int)int", "end(int)boolean", "schema()int IllegalArgumentException",
        "fault(int)int", "size(int,int)int", "field(boolean,int,int,int)int", "standard(int,int)long",
        "find(boolean,int)int", "push(long)int", "text()int IllegalStateException UnsupportedOperationException",
        "vector(int,int)int IllegalStateException IllegalArgumentException UnsupportedOperationException",
        "begin(int)void IllegalStateException NoSuchElementException",
        "set(int)boolean IllegalStateException NoSuchElementException IllegalArgumentException"
            + " UnsupportedOperationException",
        "ready()int IllegalStateException UnsupportedOperationException",
        "finish(int)int IllegalStateException IllegalArgumentException UnsupportedOperationException",
        "clear()int", "out(int)int", "count(int)int",
        "load(int)boolean IllegalArgumentException IllegalStateException", "node(int)int", "has(int)int",
        "read(int)long NoSuchElementException", "into(int)int", "up()int", "write(int,long)boolean",
        "byteAt(int)int"};

    public static void main(String[] args) throws Exception {
        theFace();
        theDocumentsFace();
        noOtherMembers();
        theFile();
        Check.end();
    }

    private static String simple(Class<?>[] types, String between) {
        List<String> names = new ArrayList<>();
        for (Class<?> type : types) {
            names.add(type.getSimpleName());
        }
        return String.join(between, names);
    }

    private static void theFace() {
        Set<String> due = new TreeSet<>(Arrays.asList(FACE));
        Set<String> found = new TreeSet<>();
        for (Method method : FlatTables.class.getDeclaredMethods()) {
            if (!Modifier.isPrivate(method.getModifiers())) {
                String thrown = simple(method.getExceptionTypes(), " ");
                found.add(method.getName() + "(" + simple(method.getParameterTypes(), ",") + ")"
                    + method.getReturnType().getSimpleName() + (thrown.isEmpty() ? "" : " " + thrown));
                int modifiers = method.getModifiers();
                Check.same(method.getName(), Modifier.PUBLIC, () -> modifiers);
            }
        }
        Check.same("the methods", due, () -> found);
        Check.same("the class", Modifier.PUBLIC | Modifier.FINAL, () -> FlatTables.class.getModifiers());
        Constructor<?>[] made = FlatTables.class.getDeclaredConstructors();
        Check.same("constructors", 1, () -> made.length);
        Check.same("it is public", Modifier.PUBLIC, () -> made[0].getModifiers());
        Check.same("it takes nothing", 0, () -> made[0].getParameterCount());
        Check.same("NONE", -1, () -> FlatTables.NONE);
    }

    /** That the list above is the document's; without the document there is nothing to compare. */
    private static void theDocumentsFace() throws Exception {
        if (!Files.exists(DOCUMENT)) {
            System.out.println("there is no " + DOCUMENT + " to compare the face with");
            return;
        }
        String document = Files.readString(DOCUMENT);
        Matcher block = Pattern.compile("(?s)## The public face\\s+```java\n(.*?)```").matcher(document);
        String face = block.find() ? block.group(1) : "";
        Set<String> members = new TreeSet<>();
        Matcher member = Pattern.compile("public (\\w+) (\\w+)\\(([^)]*)\\)(?: throws ([\\w, ]+))?;").matcher(face);
        while (member.find()) {
            String thrown = member.group(4) == null ? "" : " " + member.group(4).replace(",", "");
            members.add(member.group(2) + "(" + member.group(3).replaceAll(" \\w+(,|$)", "$1").replace(" ", "") + ")"
                + member.group(1) + thrown);
        }
        Check.same("the document's methods", new TreeSet<>(Arrays.asList(FACE)), () -> members);
        Check.same("its other members", "[NONE = -1, FlatTables()]", () -> {
            List<String> others = new ArrayList<>();
            Matcher other = Pattern.compile("public (?:static final int (\\w+ = -?\\d+)|(\\w+\\(\\)));").matcher(face);
            while (other.find()) {
                others.add(other.group(1) == null ? other.group(2) : other.group(1));
            }
            return others;
        });
    }

    /** Rules 1, 5 and 11; what they call "some" has room for a few more here. */
    private static void noOtherMembers() {
        Set<String> face = new TreeSet<>();
        for (String method : FACE) {
            face.add(method.substring(0, method.indexOf('(')));
        }
        for (Field field : FlatTables.class.getDeclaredFields()) {
            boolean isNone = field.getName().equals("NONE");
            Check.same(field.getName(), !isNone, () -> Modifier.isPrivate(field.getModifiers()));
        }
        List<Class<?>> all = new ArrayList<>(Arrays.asList(FlatTables.class.getDeclaredClasses()));
        Check.same("classes", true, () -> all.size() <= 14);
        for (Class<?> inner : all) {
            Check.same(inner.getName(), 0, () -> inner.getModifiers() & (Modifier.PUBLIC | Modifier.PROTECTED));
        }
        all.add(FlatTables.class);
        for (Class<?> each : all) {
            int fields = 0;
            for (Field field : each.getDeclaredFields()) {
                boolean isStatic = Modifier.isStatic(field.getModifiers());
                fields += isStatic ? 0 : 1;
                if (isStatic) {
                    Check.same(field.getName(), true, () -> Modifier.isFinal(field.getModifiers()));
                }
            }
            int had = fields;
            Check.same("few fields in " + each.getName(), true, () -> had <= 24);
            for (Method method : each.getDeclaredMethods()) {
                Check.same(each.getName() + "." + method.getName(), true, () -> method.getParameterCount() <= 7);
                boolean isHidden = Modifier.isPrivate(method.getModifiers()) && face.contains(method.getName());
                Check.same(method.getName() + " is no name of the face", false, () -> isHidden);
            }
        }
    }

    /** Rules 2, 4, 6, 11 and 13, as far as words tell; comments and texts do not count. */
    private static void theFile() throws Exception {
        String file = Files.readString(Path.of("src/main/java/FlatTables.java"))
            .replaceAll("(?s)/\\*.*?\\*/", "").replaceAll("\"(\\\\.|[^\"\\\\\n])*\"", "\"\"").replaceAll("//[^\n]*",
                "");
        String[] ruledOut = {"::", "\\bfinally\\b", "\\bassert\\b", "\\bsynchronized\\b", "\\bpackage\\b", "Exact\\(",
            "\\bSystem\\.(?!arraycopy\\b)", "\\bThread\\b", "\\bRandom\\b", "\\.getMessage\\(", "\\bnative\\b",
            "\\bcatch\\s*\\([^)]*(ArrayIndexOutOfBounds|NullPointer|ClassCast|NegativeArraySize|ArrayStore|Throwable|Error)",
            "\\bcatch\\s*\\(\\s*(final\\s+)?Exception\\b"};
        for (String words : ruledOut) {
            Check.same("no " + words, false, () -> Pattern.compile(words).matcher(file).find());
        }
        Matcher imports = Pattern.compile("\\bimport\\s+([\\w.]+)").matcher(file);
        while (imports.find()) {
            String name = imports.group(1);
            Check.same("import " + name, true, () -> name.matches(
                "java\\.util\\.(NoSuchElementException|ArrayList|List|Arrays|Iterator)"));
        }
        int longest = 0;
        int length = 0;
        for (String line : file.split("\n")) {
            boolean isMember = line.matches("    (    )?\\S.*");
            length = isMember ? 0 : length + 1;
            longest = Math.max(longest, length);
        }
        int most = longest;
        Check.same("methods are short", true, () -> most <= 70);
    }
}
