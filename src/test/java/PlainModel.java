import java.util.ArrayList;
import java.util.Arrays;
import java.util.HashMap;
import java.util.HashSet;
import java.util.LinkedHashMap;
import java.util.List;
import java.util.Map;
import java.util.NoSuchElementException;
import java.util.Set;
import java.util.regex.Matcher;
import java.util.regex.Pattern;

/**
 * The document once more, as plainly as the whole Java library allows, and with nothing in common with
 * the class under test: what RandomRunsTest compares it with.
 */
final class PlainModel {
    static final List<String> SCALARS = List.of("bool", "byte", "ubyte", "short", "ushort", "int", "uint",
        "long", "ulong", "float", "double");
    static final int[] WIDTH = {1, 1, 1, 2, 2, 4, 4, 8, 8, 4, 8};
    private static final Set<String> KEYWORDS = new HashSet<>(List.of("struct", "table", "union", "root",
        "required", "text"));

    static {
        KEYWORDS.addAll(SCALARS);
    }

    static final class Wrong extends Exception {
        private static final long serialVersionUID = 1L;
        final int kind;
        final int place;

        Wrong(int kind, int place) {
            this.kind = kind;
            this.place = place;
        }
    }

    /** sort as field() tells it; of a vector the element is a type of its own. */
    static final class Type {
        int sort = -1;
        int number = 0;
        Type element;
        String name;
        int place;
    }

    static final class F {
        String name;
        Type type = new Type();
        boolean required;
        long standard;
        int slot;
    }

    static final class Def {
        String word;
        int number;
        final Map<String, F> fields = new LinkedHashMap<>();
        int size;
        int align = 1;
        int slots;

        F at(int i) {
            return new ArrayList<>(fields.values()).get(i);
        }
    }

    static final class Model {
        final Map<String, Def> byName = new LinkedHashMap<>();
        final Map<String, List<Def>> byWord = new HashMap<>(Map.of("struct", new ArrayList<>(), "table",
            new ArrayList<>(), "union", new ArrayList<>()));
        int root;

        Def get(String word, int n) {
            List<Def> all = byWord.get(word);
            return n < 0 || n >= all.size() ? null : all.get(n);
        }
    }

    static final class Thing {
        final int sort;
        final int number;
        final int element;
        final int start;

        Thing(int sort, int number, int element, int start) {
            this.sort = sort;
            this.number = number;
            this.element = element;
            this.start = start;
        }
    }

    static final class Node {
        int kind;
        int number;
        Type element;
        int place;
    }

    private List<Integer> tape = new ArrayList<>();
    private List<Long> values = new ArrayList<>();
    Model schema;
    private int[] schemaFault = {0, 0};
    private int[] loadFault = {0, 0};
    // Its first element is the row's last byte.
    private List<Integer> row = new ArrayList<>();
    List<Thing> things = new ArrayList<>();
    private Map<List<Integer>, Integer> lists = new HashMap<>();
    private int asked = 4;
    int open = -1;
    private int openAt;
    private final Set<Integer> setFields = new HashSet<>();
    private final Map<Integer, Integer> stored = new HashMap<>();
    int[] out = {};
    int[] buffer = {};
    private int cameTo;
    private final List<Node> path = new ArrayList<>();

    // ---- the tape

    int feed(int a, int b, int c, int d, int e) {
        if (tape.size() > 3980) {
            return -1;
        }
        for (int number : new int[] {a, b, c, d, e}) {
            tape.add(number >>> 24);
            tape.add(number >>> 16 & 255);
            tape.add(number >>> 8 & 255);
            tape.add(number & 255);
        }
        return tape.size();
    }

    boolean end(int n) {
        if (n < 0 || n > tape.size()) {
            return false;
        }
        tape = new ArrayList<>(tape.subList(0, n));
        return true;
    }

    private int[] takeTape() {
        int[] all = tape.stream().mapToInt(Integer::intValue).toArray();
        tape.clear();
        return all;
    }

    private String takeTapeText() {
        StringBuilder text = new StringBuilder();
        for (int octet : takeTape()) {
            text.append((char) octet);
        }
        return text.toString();
    }

    // ---- the schema

    private static final Pattern BETWEEN = Pattern.compile("(?:[ \\t\\n\\r]|//[^\\n]*)*+");
    private static final Pattern LEXEME = Pattern.compile("[A-Za-z_][A-Za-z0-9_]*+|-?[0-9]++|[{}\\[\\]():;=,]");

    private String source;
    private int at;
    private String lexeme;
    private boolean bad;

    private void next(int from) {
        Matcher between = BETWEEN.matcher(source);
        between.region(from, source.length());
        at = between.lookingAt() ? between.end() : from;
        Matcher m = LEXEME.matcher(source);
        m.region(at, source.length());
        bad = false;
        if (at == source.length()) {
            lexeme = "";
        } else if (m.lookingAt()) {
            lexeme = m.group();
            bad = isWord() && lexeme.length() > 16 || isWhole() && lexeme.replace("-", "").length() > 18;
        } else {
            lexeme = "?";
            bad = true;
        }
    }

    private boolean isWord() {
        return lexeme.matches("[A-Za-z_].*");
    }

    private boolean isWhole() {
        return lexeme.matches("-?[0-9]+");
    }

    private boolean isName() {
        return !bad && isWord() && !KEYWORDS.contains(lexeme);
    }

    private void need(boolean good, int kind) throws Wrong {
        if (bad) {
            throw new Wrong(1, at);
        }
        if (!good) {
            throw new Wrong(kind, at);
        }
    }

    private void eat(String wanted) throws Wrong {
        need(lexeme.equals(wanted), 2);
        next(at + lexeme.length());
    }

    private String eatName() throws Wrong {
        need(isName(), 2);
        String name = lexeme;
        next(at + lexeme.length());
        return name;
    }

    private boolean sees(String wanted) {
        return !bad && lexeme.equals(wanted);
    }

    private Model parse() throws Wrong {
        Model made = new Model();
        List<Type> later = new ArrayList<>();
        List<String> allowed = new ArrayList<>();
        next(0);
        while (!sees("root")) {
            need(List.of("struct", "table", "union").contains(lexeme), 2);
            parseDefinition(made, later, allowed);
        }
        eat("root");
        need(isName(), 2);
        Type root = new Type();
        name(root, later, allowed, "table");
        eat(";");
        need(lexeme.isEmpty(), 2);
        for (int i = 0; i < later.size(); i++) {
            Type type = later.get(i);
            Def def = made.byName.get(type.name);
            if (def == null || !allowed.get(i).contains(def.word)) {
                throw new Wrong(5, type.place);
            }
            type.sort = List.of("struct", "table", "union").indexOf(def.word) + 2;
            type.number = def.number;
        }
        made.root = root.number;
        for (Def table : made.byWord.get("table")) {
            for (F f : table.fields.values()) {
                f.slot = table.slots;
                table.slots += f.type.sort == 4 ? 2 : 1;
            }
        }
        return made;
    }

    private void name(Type type, List<Type> later, List<String> allowed, String words) throws Wrong {
        type.place = at;
        type.name = eatName();
        later.add(type);
        allowed.add(words);
    }

    private void parseDefinition(Model made, List<Type> later, List<String> allowed) throws Wrong {
        Def def = new Def();
        def.word = lexeme;
        next(at + lexeme.length());
        need(isName(), 2);
        need(!made.byName.containsKey(lexeme), 3);
        List<Def> alike = made.byWord.get(def.word);
        need(alike.size() < Map.of("struct", 12, "table", 16, "union", 8).get(def.word), 4);
        String name = eatName();
        def.number = alike.size();
        eat("{");
        made.byName.put(name, def);
        alike.add(def);
        boolean first = true;
        while (first && !def.word.equals("table") || !sees("}")) {
            if (def.word.equals("union") && !first) {
                eat(",");
            }
            first = false;
            need(isName(), 2);
            need(!def.fields.containsKey(lexeme), 3);
            need(def.fields.size() < Map.of("struct", 12, "table", 16, "union", 8).get(def.word), 4);
            F f = new F();
            f.name = lexeme;
            def.fields.put(lexeme, f);
            if (def.word.equals("union")) {
                name(f.type, later, allowed, "table");
                continue;
            }
            eatName();
            eat(":");
            if (def.word.equals("struct")) {
                structType(made, def, f);
            } else {
                tableType(f, later, allowed);
            }
            eat(";");
        }
        while (def.size % def.align != 0) {
            def.size++;
        }
        need(def.size <= 128, 8);
        eat("}");
    }

    private void structType(Model made, Def def, F f) throws Wrong {
        int size;
        int align;
        if (!bad && SCALARS.contains(lexeme)) {
            f.type.sort = 0;
            f.type.number = SCALARS.indexOf(lexeme);
            size = WIDTH[f.type.number];
            align = size;
        } else {
            need(isName(), 2);
            Def inner = made.byName.get(lexeme);
            need(inner != null && inner != def && inner.word.equals("struct"), 5);
            f.type.sort = 2;
            f.type.number = inner.number;
            size = inner.size;
            align = inner.align;
        }
        while (def.size % align != 0) {
            def.size++;
        }
        f.slot = def.size;
        def.size += size;
        def.align = Math.max(def.align, align);
        next(at + lexeme.length());
    }

    private void tableType(F f, List<Type> later, List<String> allowed) throws Wrong {
        if (sees("[")) {
            eat("[");
            f.type.sort = 5;
            f.type.element = new Type();
            plainType(f.type.element, later, allowed, "struct table");
            eat("]");
        } else {
            plainType(f.type, later, allowed, "struct table union");
        }
        boolean isScalar = f.type.sort == 0;
        if (sees("=")) {
            need(isScalar && f.type.number < 9, 7);
            eat("=");
            need(isWhole(), 2);
            long v = Long.parseLong(lexeme);
            need(isValue(f.type.number, v) && (f.type.number != 8 || v >= 0), 6);
            f.standard = v;
            next(at + lexeme.length());
        }
        if (sees("(")) {
            need(!isScalar, 7);
            eat("(");
            eat("required");
            eat(")");
            f.required = true;
        }
    }

    private void plainType(Type type, List<Type> later, List<String> allowed, String words) throws Wrong {
        if (!bad && SCALARS.contains(lexeme)) {
            type.sort = 0;
            type.number = SCALARS.indexOf(lexeme);
            next(at + lexeme.length());
        } else if (sees("text")) {
            type.sort = 1;
            eat("text");
        } else {
            name(type, later, allowed, words);
        }
    }

    static boolean isValue(int scalar, long v) {
        switch (SCALARS.get(scalar)) {
            case "bool":
                return v == 0 || v == 1;
            case "byte":
                return v == (byte) v;
            case "ubyte":
                return v == (v & 0xFF);
            case "short":
                return v == (short) v;
            case "ushort":
                return v == (v & 0xFFFF);
            case "int":
            case "float":
                return v == (int) v;
            case "uint":
                return v == (v & 0xFFFFFFFFL);
            default:
                return true;
        }
    }

    int schema() {
        source = takeTapeText();
        try {
            Model made = parse();
            schema = made;
            schemaFault = new int[] {0, 0};
        } catch (Wrong e) {
            schemaFault = new int[] {e.kind, e.place};
            throw new IllegalArgumentException();
        }
        clear();
        buffer = new int[0];
        path.clear();
        return schema.byWord.get("table").size();
    }

    int fault(int what) {
        switch (what) {
            case 0:
            case 1:
                return schemaFault[what];
            case 2:
            case 3:
                return loadFault[what - 2];
            default:
                return -1;
        }
    }

    private Def def(String word, int n) {
        return schema == null ? null : schema.get(word, n);
    }

    int size(int what, int n) {
        if (what >= 0 && what <= 2) {
            return schema == null ? 0 : schema.byWord.get(List.of("struct", "table", "union").get(what)).size();
        }
        if (what == 3) {
            return schema == null ? -1 : schema.root;
        }
        if (what < 3 || what > 9) {
            return -1;
        }
        Def def = def(what < 7 ? "struct" : what < 9 ? "table" : "union", n);
        if (def == null) {
            return -1;
        }
        switch (what) {
            case 5:
                return def.size;
            case 6:
                return def.align;
            case 8:
                return def.slots;
            default:
                return def.fields.size();
        }
    }

    private F fieldOf(Def def, int f) {
        return def == null || f < 0 || f >= def.fields.size() ? null : def.at(f);
    }

    int field(boolean isStruct, int n, int f, int what) {
        F field = fieldOf(def(isStruct ? "struct" : "table", n), f);
        if (field == null || what < 0 || what > 4) {
            return -1;
        }
        Type element = field.type.element;
        return new int[] {field.type.sort, element == null ? field.type.number : element.number,
            element == null ? -1 : element.sort, field.slot, field.required ? 1 : 0}[what];
    }

    long standard(int n, int f) {
        F field = fieldOf(def("table", n), f);
        return field == null ? 0 : field.standard;
    }

    int find(boolean isStruct, int n) {
        String name = takeTapeText();
        Def def = def(isStruct ? "struct" : "table", n);
        return def == null ? -1 : new ArrayList<>(def.fields.keySet()).indexOf(name);
    }

    // ---- building

    int push(long v) {
        if (values.size() == 600) {
            return -1;
        }
        values.add(v);
        return values.size();
    }

    private List<Long> takeValues() {
        List<Long> all = values;
        values = new ArrayList<>();
        return all;
    }

    private void prepend(long number, int bytes) {
        for (int i = bytes - 1; i >= 0; i--) {
            row.add((int) (number >> 8 * i & 255));
        }
    }

    private void pad(int more, int a) {
        asked = Math.max(asked, a);
        while ((row.size() + more) % a != 0) {
            row.add(0);
        }
    }

    /** What a piece of building does is undone if it makes the row too long. */
    private interface Piece {
        void put();
    }

    private void putOrUndo(boolean isThing, Piece piece) {
        List<Integer> rowThen = new ArrayList<>(row);
        Map<List<Integer>, Integer> listsThen = new HashMap<>(lists);
        Map<Integer, Integer> storedThen = new HashMap<>(stored);
        int askedThen = asked;
        if (isThing && things.size() == 300) {
            throw new UnsupportedOperationException();
        }
        piece.put();
        if (row.size() > 4000) {
            row = rowThen;
            lists = listsThen;
            asked = askedThen;
            stored.clear();
            stored.putAll(storedThen);
            throw new UnsupportedOperationException();
        }
    }

    int text() {
        int[] octets = takeTape();
        if (open >= 0) {
            throw new IllegalStateException();
        }
        putOrUndo(true, () -> {
            pad(octets.length + 1, 4);
            row.add(0);
            for (int i = octets.length - 1; i >= 0; i--) {
                row.add(octets[i]);
            }
            prepend(octets.length, 4);
        });
        things.add(new Thing(1, 0, -1, row.size()));
        return things.size() - 1;
    }

    /** The scalars of a struct with their places, in order. */
    void leaves(Def struct, int place, List<int[]> into) {
        for (F f : struct.fields.values()) {
            if (f.type.sort == 0) {
                into.add(new int[] {f.type.number, place + f.slot});
            } else {
                leaves(schema.get("struct", f.type.number), place + f.slot, into);
            }
        }
    }

    List<int[]> leaves(int n) {
        List<int[]> all = new ArrayList<>();
        leaves(schema.get("struct", n), 0, all);
        return all;
    }

    private boolean isThing(long v, int sort, int number, int element) {
        if (v < 0 || v >= things.size()) {
            return false;
        }
        Thing thing = things.get((int) v);
        return thing.sort == sort && thing.number == number && thing.element == element;
    }

    private void reference(long thing) {
        prepend(row.size() + 4 - things.get((int) thing).start, 4);
    }

    private void prependStruct(int n, List<Long> of) {
        Def struct = schema.get("struct", n);
        int[] image = new int[struct.size];
        List<int[]> leaves = leaves(n);
        for (int i = 0; i < leaves.size(); i++) {
            for (int j = 0; j < WIDTH[leaves.get(i)[0]]; j++) {
                image[leaves.get(i)[1] + j] = (int) (of.get(i) >> 8 * j & 255);
            }
        }
        for (int i = image.length - 1; i >= 0; i--) {
            row.add(image[i]);
        }
    }

    private boolean areLeaves(int n, List<Long> of) {
        List<int[]> leaves = leaves(n);
        if (of.size() % leaves.size() != 0) {
            return false;
        }
        for (int i = 0; i < of.size(); i++) {
            if (!isValue(leaves.get(i % leaves.size())[0], of.get(i))) {
                return false;
            }
        }
        return true;
    }

    int vector(int sort, int n) {
        List<Long> of = takeValues();
        if (open >= 0) {
            throw new IllegalStateException();
        }
        boolean good;
        switch (sort) {
            case 0:
                good = n >= 0 && n <= 10 && of.stream().allMatch(v -> isValue(n, v));
                break;
            case 1:
                good = of.stream().allMatch(v -> isThing(v, 1, 0, -1));
                break;
            case 2:
                good = def("struct", n) != null && areLeaves(n, of);
                break;
            case 3:
                good = def("table", n) != null && of.stream().allMatch(v -> isThing(v, 3, n, -1));
                break;
            default:
                good = false;
        }
        if (!good) {
            throw new IllegalArgumentException();
        }
        int each = sort == 2 ? leaves(n).size() : 1;
        int size = sort == 0 ? WIDTH[n] : sort == 2 ? def("struct", n).size : 4;
        int align = sort == 0 ? WIDTH[n] : sort == 2 ? def("struct", n).align : 4;
        int m = of.size() / each;
        putOrUndo(true, () -> {
            pad(m * size, Math.max(4, align));
            for (int i = m - 1; i >= 0; i--) {
                if (sort == 0) {
                    prepend(of.get(i), size);
                } else if (sort == 2) {
                    prependStruct(n, of.subList(i * each, i * each + each));
                } else {
                    reference(of.get(i));
                }
            }
            prepend(m, 4);
        });
        things.add(new Thing(5, sort == 1 ? 0 : n, sort, row.size()));
        return things.size() - 1;
    }

    void begin(int n) {
        if (open >= 0) {
            throw new IllegalStateException();
        }
        if (def("table", n) == null) {
            throw new NoSuchElementException();
        }
        open = n;
        openAt = row.size();
        setFields.clear();
        stored.clear();
    }

    boolean set(int f) {
        List<Long> of = takeValues();
        if (open < 0) {
            throw new IllegalStateException();
        }
        F field = fieldOf(def("table", open), f);
        if (field == null) {
            throw new NoSuchElementException();
        }
        if (setFields.contains(f) || !suits(field.type, of)) {
            throw new IllegalArgumentException();
        }
        if (field.type.sort == 0 && of.get(0) == field.standard) {
            setFields.add(f);
            return false;
        }
        putOrUndo(false, () -> store(field, of));
        setFields.add(f);
        return true;
    }

    private boolean suits(Type type, List<Long> of) {
        switch (type.sort) {
            case 0:
                return of.size() == 1 && isValue(type.number, of.get(0));
            case 2:
                return of.size() == leaves(type.number).size() && areLeaves(type.number, of);
            case 4:
                Def union = schema.get("union", type.number);
                return of.size() == 2 && of.get(0) >= 1 && of.get(0) <= union.fields.size()
                    && isThing(of.get(1), 3, union.at((int) (of.get(0) - 1)).type.number, -1);
            case 5:
                return of.size() == 1 && isThing(of.get(0), 5, type.element.number, type.element.sort);
            default:
                return of.size() == 1 && isThing(of.get(0), type.sort, type.number, -1);
        }
    }

    private void store(F field, List<Long> of) {
        switch (field.type.sort) {
            case 0:
                int width = WIDTH[field.type.number];
                pad(width, width);
                prepend(of.get(0), width);
                break;
            case 2:
                Def struct = schema.get("struct", field.type.number);
                pad(struct.size, struct.align);
                prependStruct(field.type.number, of);
                break;
            case 4:
                pad(4, 4);
                reference(of.get(1));
                stored.put(field.slot + 1, row.size());
                prepend(of.get(0), 1);
                break;
            default:
                pad(4, 4);
                reference(of.get(0));
        }
        stored.put(field.slot, row.size());
    }

    int ready() {
        if (open < 0) {
            throw new IllegalStateException();
        }
        Def table = schema.get("table", open);
        for (int f = 0; f < table.fields.size(); f++) {
            if (table.at(f).required && !setFields.contains(f)) {
                throw new IllegalStateException();
            }
        }
        int[] start = {0};
        putOrUndo(true, () -> {
            pad(4, 4);
            int p = row.size() + 4;
            start[0] = p;
            int slots = stored.keySet().stream().mapToInt(s -> s + 1).max().orElse(0);
            List<Integer> list = new ArrayList<>(List.of(4 + 2 * slots, p - openAt));
            for (int s = 0; s < slots; s++) {
                list.add(stored.containsKey(s) ? p - stored.get(s) : 0);
            }
            boolean isNew = !lists.containsKey(list);
            int where = isNew ? p + list.get(0) : lists.get(list);
            prepend(where - p, 4);
            if (isNew) {
                pad(list.get(0), 2);
                for (int i = list.size() - 1; i >= 0; i--) {
                    prepend(list.get(i), 2);
                }
                lists.put(list, row.size());
            }
        });
        things.add(new Thing(3, open, -1, start[0]));
        open = -1;
        return things.size() - 1;
    }

    int finish(int thing) {
        if (open >= 0) {
            throw new IllegalStateException();
        }
        if (schema == null || !isThing(thing, 3, schema.root, -1)) {
            throw new IllegalArgumentException();
        }
        putOrUndo(false, () -> {
            pad(4, asked);
            reference(thing);
        });
        out = new int[row.size()];
        for (int i = 0; i < out.length; i++) {
            out[i] = row.get(out.length - 1 - i);
        }
        clear();
        return out.length;
    }

    int clear() {
        int had = row.size();
        row = new ArrayList<>();
        things = new ArrayList<>();
        lists = new HashMap<>();
        asked = 4;
        open = -1;
        return had;
    }

    int out(int i) {
        return i < 0 || i >= out.length ? -1 : out[i];
    }

    int count(int what) {
        if (what < 0 || what > 8) {
            return -1;
        }
        return new int[] {tape.size(), values.size(), row.size(), things.size(), open, out.length,
            buffer.length, lists.size(), cameTo}[what];
    }

    // ---- judging

    private int[] judged;
    private int came;

    private long number(int place, int bytes) {
        long number = 0;
        for (int i = 0; i < bytes; i++) {
            number |= (long) judged[place + i] << 8 * i;
        }
        return number;
    }

    private static void fault(boolean isWrong, int kind, long place) throws Wrong {
        if (isWrong) {
            throw new Wrong(kind, (int) place);
        }
    }

    private void judge(int[] bytes) throws Wrong {
        judged = bytes;
        came = 0;
        fault(bytes.length < 4, 1, 0);
        judgeTable(0, schema.get("table", schema.root), 1);
    }

    private int judgeReference(int q) throws Wrong {
        long r = number(q, 4);
        fault(r == 0 || q + r + 4 > judged.length, 2, q);
        fault((q + r) % 4 != 0, 3, q);
        return (int) (q + r);
    }

    private void judgeTable(int q, Def table, int depth) throws Wrong {
        int p = judgeReference(q);
        fault(depth == 17, 4, q);
        fault(came == 200, 5, q);
        came++;
        long place = (long) p - (int) number(p, 4);
        fault(place < 0 || place % 2 != 0 || judged.length - place < 4, 6, p);
        int list = (int) place;
        int v = (int) number(list, 2);
        fault(v < 4 || v % 2 == 1 || list + v > judged.length, 7, list);
        int t = (int) number(list + 2, 2);
        fault(t < 4 || p + t > judged.length, 8, list + 2);
        for (F f : table.fields.values()) {
            int e = list + 4 + 2 * f.slot;
            int there = there(list, v, f.slot);
            if (f.type.sort == 4) {
                judgeUnion(p, list, v, t, f, depth);
            } else if (there == 0) {
                fault(f.required, 9, p);
            } else {
                int size = sizeOf(f.type);
                fault(there < 4 || there + size > t, 10, e);
                fault((p + there) % alignOf(f.type) != 0, 3, e);
                judgeStored(p + there, f.type, depth);
            }
        }
    }

    private int there(int list, int v, int slot) {
        return 6 + 2 * slot <= v ? (int) number(list + 4 + 2 * slot, 2) : 0;
    }

    private int sizeOf(Type type) {
        return type.sort == 0 ? WIDTH[type.number] : type.sort == 2 ? schema.get("struct", type.number).size : 4;
    }

    private int alignOf(Type type) {
        return type.sort == 0 ? WIDTH[type.number] : type.sort == 2 ? schema.get("struct", type.number).align : 4;
    }

    private void judgeUnion(int p, int list, int v, int t, F f, int depth) throws Wrong {
        Def union = schema.get("union", f.type.number);
        int first = there(list, v, f.slot);
        int second = there(list, v, f.slot + 1);
        int e = list + 4 + 2 * f.slot;
        int which = 0;
        if (first != 0) {
            fault(first < 4 || first + 1 > t, 10, e);
            which = judged[p + first];
            fault(which > union.fields.size(), 12, p + first);
        }
        if (which == 0) {
            fault(second != 0, 12, e + 2);
            fault(f.required, 9, p);
            return;
        }
        fault(second == 0, 9, p);
        fault(second < 4 || second + 4 > t, 10, e + 2);
        fault((p + second) % 4 != 0, 3, e + 2);
        judgeTable(p + second, schema.get("table", union.at(which - 1).type.number), depth + 1);
    }

    private void judgeStored(int q, Type type, int depth) throws Wrong {
        switch (type.sort) {
            case 0:
                fault(type.number == 0 && judged[q] > 1, 11, q);
                break;
            case 1:
                int text = judgeReference(q);
                long m = number(text, 4);
                fault(text + 4 + m + 1 > judged.length, 13, text);
                fault(judged[(int) (text + 4 + m)] != 0, 14, text + 4 + m);
                break;
            case 2:
                for (F f : schema.get("struct", type.number).fields.values()) {
                    judgeStored(q + f.slot, f.type, depth);
                }
                break;
            case 3:
                judgeTable(q, schema.get("table", type.number), depth + 1);
                break;
            default:
                int vector = judgeReference(q);
                fault((vector + 4) % alignOf(type.element) != 0, 3, vector);
                long many = number(vector, 4);
                fault(vector + 4 + many * sizeOf(type.element) > judged.length, 13, vector);
                for (int i = 0; i < many; i++) {
                    judgeStored(vector + 4 + i * sizeOf(type.element), type.element, depth);
                }
        }
    }

    boolean load(int from) {
        if (from < 0 || from > 1) {
            throw new IllegalArgumentException();
        }
        int[] bytes = from == 0 ? takeTape() : out.clone();
        if (schema == null) {
            throw new IllegalStateException();
        }
        try {
            judge(bytes);
        } catch (Wrong e) {
            loadFault = new int[] {e.kind, e.place};
            return false;
        }
        loadFault = new int[] {0, 0};
        cameTo = came;
        buffer = bytes;
        toRoot();
        return true;
    }

    // ---- reading

    private void toRoot() {
        path.clear();
        judged = buffer;
        enter(1, schema.root, null, (int) number(0, 4));
    }

    private int enter(int kind, int number, Type element, int place) {
        Node node = new Node();
        node.kind = kind;
        node.number = number;
        node.element = element;
        node.place = place;
        path.add(node);
        return kind;
    }

    private Node hand() {
        judged = buffer;
        return path.isEmpty() ? null : path.get(path.size() - 1);
    }

    private int parts(Node node) {
        if (node.kind > 2) {
            return (int) number(node.place, 4);
        }
        return schema.get(node.kind == 1 ? "table" : "struct", node.number).fields.size();
    }

    int node(int what) {
        Node node = hand();
        if (node == null || what < 0 || what > 4) {
            return -1;
        }
        return new int[] {node.kind, node.number, node.place, parts(node), path.size() - 1}[what];
    }

    private boolean isPart(int k) {
        Node node = hand();
        return node != null && k >= 0 && k < parts(node);
    }

    private F fieldAtHand(int k) {
        Node node = hand();
        return node.kind > 2 ? null : schema.get(node.kind == 1 ? "table" : "struct", node.number).at(k);
    }

    private Type typeOf(int k) {
        Node node = hand();
        return node.kind == 4 ? null : node.kind == 3 ? node.element : fieldAtHand(k).type;
    }

    private int slotPlace(int p, int slot) {
        int list = p - (int) number(p, 4);
        int there = there(list, (int) number(list, 2), slot);
        return there == 0 ? -1 : p + there;
    }

    /** -1 if it is not stored; of a union it is where which one stands. */
    private int placeOf(int k) {
        Node node = hand();
        switch (node.kind) {
            case 1:
                return slotPlace(node.place, fieldAtHand(k).slot);
            case 2:
                return node.place + fieldAtHand(k).slot;
            case 3:
                return node.place + 4 + k * sizeOf(node.element);
            default:
                return node.place + 4 + k;
        }
    }

    private int which(int k) {
        int place = placeOf(k);
        return place < 0 ? 0 : buffer[place];
    }

    int has(int k) {
        if (!isPart(k)) {
            return -1;
        }
        Type type = typeOf(k);
        if (type != null && type.sort == 4) {
            return which(k) > 0 ? 1 : 0;
        }
        return placeOf(k) < 0 ? 0 : 1;
    }

    long read(int k) {
        if (!isPart(k)) {
            throw new NoSuchElementException();
        }
        Type type = typeOf(k);
        int place = placeOf(k);
        if (type == null) {
            return buffer[place];
        }
        if (type.sort == 4) {
            return which(k);
        }
        if (type.sort != 0) {
            throw new NoSuchElementException();
        }
        if (place < 0) {
            return fieldAtHand(k).standard;
        }
        long number = number(place, WIDTH[type.number]);
        switch (SCALARS.get(type.number)) {
            case "byte":
                return (byte) number;
            case "short":
                return (short) number;
            case "int":
            case "float":
                return (int) number;
            default:
                return number;
        }
    }

    int into(int k) {
        if (has(k) != 1 || typeOf(k) == null) {
            return -1;
        }
        Type type = typeOf(k);
        int place = placeOf(k);
        boolean isReference = type.sort == 1 || type.sort == 3 || type.sort == 5;
        int behind = isReference ? (int) (place + number(place, 4)) : 0;
        switch (type.sort) {
            case 1:
                return enter(4, 0, null, behind);
            case 2:
                return enter(2, type.number, null, place);
            case 3:
                return enter(1, type.number, null, behind);
            case 4:
                int second = slotPlace(hand().place, fieldAtHand(k).slot + 1);
                Def union = schema.get("union", type.number);
                return enter(1, union.at(which(k) - 1).type.number, null, (int) (second + number(second, 4)));
            case 5:
                Type element = type.element;
                return enter(3, element.number, element, behind);
            default:
                return -1;
        }
    }

    int up() {
        if (path.size() < 2) {
            return -1;
        }
        path.remove(path.size() - 1);
        return hand().kind;
    }

    boolean write(int k, long v) {
        if (has(k) != 1 || typeOf(k) == null || typeOf(k).sort != 0 || !isValue(typeOf(k).number, v)) {
            return false;
        }
        int[] changed = buffer.clone();
        int place = placeOf(k);
        for (int i = 0; i < WIDTH[typeOf(k).number]; i++) {
            changed[place + i] = (int) (v >> 8 * i & 255);
        }
        try {
            judge(changed);
        } catch (Wrong e) {
            return false;
        }
        buffer = changed;
        toRoot();
        return true;
    }

    int byteAt(int i) {
        return i < 0 || i >= buffer.length ? -1 : buffer[i];
    }

    @Override
    public String toString() {
        return "out " + Arrays.toString(out) + " buffer " + Arrays.toString(buffer);
    }
}
