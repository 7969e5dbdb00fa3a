import java.nio.charset.StandardCharsets;
import java.util.ArrayList;
import java.util.List;
import java.util.Random;

/**
 * All promises together: runs of at most 512 calls, made up from the numbers of the runs (so always the
 * same ones), on the class and on PlainModel; every answer must be the same.
 */
public final class RandomRunsTest {
    private static final int MOST_CALLS = 512;
    private static final List<String> MACHINE = List.of("ArrayIndexOutOfBoundsException",
        "IndexOutOfBoundsException", "StringIndexOutOfBoundsException", "NullPointerException",
        "ArithmeticException", "ClassCastException", "NegativeArraySizeException", "ArrayStoreException");

    private static int wrong = 0;
    private static final int[] schemaFaults = new int[9];
    private static final int[] loadFaults = new int[15];

    private final Random random;
    private final int run;
    private final FlatTables x = new FlatTables();
    private final PlainModel m = new PlainModel();
    private final StringBuilder story = new StringBuilder();
    private int calls = 0;
    private boolean failed = false;

    private RandomRunsTest(int run) {
        this.run = run;
        random = new Random(run);
    }

    public static void main(String[] args) {
        int runs = args.length > 0 ? Integer.parseInt(args[0]) : 6000;
        int first = args.length > 1 ? Integer.parseInt(args[1]) : 0;
        for (int run = first; run < first + runs && wrong < 5; run++) {
            new RandomRunsTest(run).play();
        }
        System.out.println("faults of schemas by kind " + java.util.Arrays.toString(schemaFaults)
            + ", of loads " + java.util.Arrays.toString(loadFaults));
        System.out.println(wrong == 0 ? "all answers are the model's" : wrong + " runs are wrong");
        if (wrong != 0) {
            System.exit(1);
        }
    }

    /** Whether the run goes on. */
    private boolean goesOn() {
        return !failed && calls < MOST_CALLS;
    }

    private String both(String what, Check.Call real, Check.Call model) {
        if (!goesOn()) {
            return "over";
        }
        calls++;
        String got = Check.answer(real);
        String due = Check.answer(model);
        story.append(what).append(" -> ").append(due).append('\n');
        if (!got.equals(due) || MACHINE.contains(got)) {
            failed = true;
            wrong++;
            System.out.println("run " + run + ", call " + calls + ":\n" + story + what + " answered " + got
                + ", due is " + due);
        }
        return due;
    }

    private boolean chance(int percent) {
        return random.nextInt(100) < percent;
    }

    private int pick(int n) {
        return n < 1 ? 0 : random.nextInt(n);
    }

    private int oddNumber() {
        int[] odd = {-1, 0, 1, 2, 3, 4, 5, 7, 8, 9, 11, 12, 15, 16, 17, 300, Integer.MAX_VALUE,
            Integer.MIN_VALUE};
        return odd[random.nextInt(odd.length)];
    }

    // ---- the tape

    private void tape(int[] bytes) {
        for (int i = 0; i < bytes.length && goesOn(); i += 20) {
            int[] a = new int[5];
            for (int j = 0; j < 20; j++) {
                a[j / 4] = a[j / 4] << 8 | (i + j < bytes.length ? bytes[i + j] & 255 : random.nextInt(256));
            }
            both("feed(" + a[0] + "," + a[1] + "," + a[2] + "," + a[3] + "," + a[4] + ")",
                () -> x.feed(a[0], a[1], a[2], a[3], a[4]), () -> m.feed(a[0], a[1], a[2], a[3], a[4]));
        }
        end(bytes.length);
    }

    private void end(int n) {
        both("end(" + n + ")", () -> x.end(n), () -> m.end(n));
    }

    private void tape(String text) {
        byte[] bytes = text.getBytes(StandardCharsets.ISO_8859_1);
        int[] numbers = new int[bytes.length];
        for (int i = 0; i < bytes.length; i++) {
            numbers[i] = bytes[i] & 255;
        }
        tape(numbers);
    }

    // ---- schemas

    private String name(String of) {
        return of + (char) ('a' + random.nextInt(6));
    }

    private String blank() {
        return chance(90) ? "" : List.of(" ", "\n", "\t", "\r", "//x{\n", " // y\n").get(random.nextInt(6));
    }

    private String scalar() {
        return chance(25) ? "bool" : PlainModel.SCALARS.get(random.nextInt(11));
    }

    private String makeSchema() {
        List<String> names = new ArrayList<>();
        int structs = random.nextInt(4);
        int tables = 1 + random.nextInt(4);
        int unions = random.nextInt(3);
        List<String> order = new ArrayList<>();
        for (int i = 0; i < tables; i++) {
            names.add("T" + i);
            order.add(makeTable("T" + i, structs, tables, unions));
        }
        for (int i = 0; i < unions; i++) {
            order.add(random.nextInt(order.size() + 1), makeUnion("U" + i, tables));
        }
        int at = 0;
        for (int i = 0; i < structs; i++) {
            at += random.nextInt(order.size() - at + 1);
            order.add(at, makeStruct("S" + i, i));
            at++;
        }
        StringBuilder text = new StringBuilder();
        for (String definition : order) {
            text.append(definition).append(blank());
        }
        return text.append("root").append(' ').append(names.get(random.nextInt(names.size()))).append(blank())
            .append(";").append(blank()).toString();
    }

    private String makeStruct(String name, int known) {
        StringBuilder text = new StringBuilder("struct " + name + blank() + "{");
        int fields = 1 + random.nextInt(4);
        for (int i = 0; i < fields; i++) {
            String type = known > 0 && chance(40) ? "S" + random.nextInt(known) : scalar();
            text.append((char) ('a' + i)).append(blank()).append(":").append(type).append(";");
        }
        return text + "}";
    }

    private String makeUnion(String name, int tables) {
        StringBuilder text = new StringBuilder("union " + name + "{");
        int members = 1 + random.nextInt(tables);
        int from = random.nextInt(tables);
        for (int i = 0; i < members; i++) {
            text.append(i == 0 ? "" : ",").append("T").append((from + i) % tables);
        }
        return text + "}";
    }

    private String makeTable(String name, int structs, int tables, int unions) {
        StringBuilder text = new StringBuilder("table " + name + "{");
        int fields = random.nextInt(6);
        for (int i = 0; i < fields; i++) {
            text.append((char) ('a' + i)).append(":").append(makeType(structs, tables, unions)).append(";");
        }
        return text + "}";
    }

    private String makeType(int structs, int tables, int unions) {
        String required = chance(15) ? "(required)" : "";
        switch (random.nextInt(10)) {
            case 0:
            case 1:
            case 2:
                String type = scalar();
                boolean plain = type.equals("float") || type.equals("double") || chance(50);
                String value = type.equals("bool") ? "1" : type.startsWith("u") ? "200" : "-7";
                return type + (plain ? "" : "=" + value);
            case 3:
                return "text" + required;
            case 4:
                return structs > 0 ? "S" + random.nextInt(structs) + required : "bool";
            case 5:
                return "T" + random.nextInt(tables) + (chance(3) ? required : "");
            case 6:
                return unions > 0 ? "U" + random.nextInt(unions) + (chance(20) ? required : "") : "text";
            case 7:
                return "[" + scalar() + "]" + required;
            case 8:
                return chance(50) || structs == 0 ? "[text]" : "[S" + random.nextInt(structs) + "]";
            default:
                return "[T" + random.nextInt(tables) + "]" + (chance(20) ? required : "");
        }
    }

    private String spoil(String text) {
        String[] bits = {"{", "}", "[", "]", "(", ")", ":", ";", "=", ",", " ", "\n", "//", "/", "-", "-5", "0",
            "128", "256", "99999999999", "999999999999999999", "1000000000000000000", "$", "struct", "table",
            "union", "root", "required", "text", "bool", "double", "Ta", "T0", "T1", "S0", "U0", "a", "b",
            "abcdefghijklmnop", "abcdefghijklmnopq", "(required)", "=5", "=-1", "\u00e4", "\0", "a:S0;",
            "b:[U0];", "c:U1;", "struct S9{a:long;b:bool;}", "table T0{}", "union U9{T0,T0}"};
        StringBuilder changed = new StringBuilder(text);
        int times = 1 + random.nextInt(2);
        for (int i = 0; i < times; i++) {
            int place = random.nextInt(changed.length() + 1);
            int end = Math.min(changed.length(), place + random.nextInt(4));
            switch (random.nextInt(4)) {
                case 0:
                    changed.insert(place, bits[random.nextInt(bits.length)]);
                    break;
                case 1:
                    changed.replace(place, end, bits[random.nextInt(bits.length)]);
                    break;
                case 2:
                    changed.delete(place, end);
                    break;
                default:
                    if (chance(20)) {
                        changed.setLength(place);
                    } else {
                        changed.insert(place, changed.substring(place, end));
                    }
            }
        }
        return changed.toString();
    }

    /** A schema at the edges of how many there may be. */
    private String crowded() {
        StringBuilder text = new StringBuilder();
        int structs = 11 + random.nextInt(3);
        int tables = 15 + random.nextInt(3);
        int unions = 7 + random.nextInt(3);
        int fields = 15 + random.nextInt(3);
        int which = random.nextInt(6);
        if (which == 0) {
            for (int i = 0; i < structs; i++) {
                text.append("struct S").append(i).append("{a:int;}");
            }
        }
        for (int i = 0; which == 1 && i < tables; i++) {
            text.append("table T").append(i).append("{}");
        }
        for (int i = 0; which == 2 && i < unions; i++) {
            text.append("union U").append(i).append("{A}");
        }
        if (which == 3) {
            text.append("table F{");
            for (int i = 0; i < fields; i++) {
                text.append("f").append(i).append(":byte;");
            }
            text.append("}");
        }
        if (which == 4) {
            text.append("struct F{");
            for (int i = 0; i < fields - 4; i++) {
                text.append("f").append(i).append(chance(20) ? ":double;" : ":long;");
            }
            text.append("}struct G{a:F;b:F;c:").append(scalar()).append(";}");
        }
        if (which == 5) {
            text.append("union F{");
            for (int i = 0; i < unions; i++) {
                text.append(i == 0 ? "" : ",").append("T").append(i);
            }
            text.append("}");
            for (int i = 0; i < unions; i++) {
                text.append("table T").append(i).append("{}");
            }
        }
        return text + "table A{}root A;";
    }

    private void readSchema(String text) {
        tape(text);
        both("schema()", x::schema, m::schema);
        both("fault(0)", () -> x.fault(0), () -> m.fault(0));
        both("fault(1)", () -> x.fault(1), () -> m.fault(1));
        schemaFaults[m.fault(0)]++;
    }

    private void askSchema(int times) {
        for (int i = 0; i < times && goesOn(); i++) {
            int what = chance(95) ? random.nextInt(10) : oddNumber();
            int n = chance(90) ? random.nextInt(4) : oddNumber();
            int f = chance(90) ? random.nextInt(6) : oddNumber();
            boolean isStruct = chance(40);
            switch (random.nextInt(4)) {
                case 0:
                    both("size(" + what + ", " + n + ")", () -> x.size(what, n), () -> m.size(what, n));
                    break;
                case 1:
                    int w = chance(95) ? random.nextInt(5) : oddNumber();
                    both("field(" + isStruct + ", " + n + ", " + f + ", " + w + ")",
                        () -> x.field(isStruct, n, f, w), () -> m.field(isStruct, n, f, w));
                    break;
                case 2:
                    both("standard(" + n + ", " + f + ")", () -> x.standard(n, f), () -> m.standard(n, f));
                    break;
                default:
                    tape(chance(80) ? "" + (char) ('a' + random.nextInt(6)) : List.of("", "a\0", "\0a", "ab",
                        "abcdefghijklmnopqrst").get(random.nextInt(5)));
                    both("find(" + isStruct + ", " + n + ")", () -> x.find(isStruct, n), () -> m.find(isStruct, n));
            }
        }
    }

    // ---- building

    private long valueOf(int scalar) {
        if (chance(1)) {
            return random.nextLong();
        }
        long[] edges = {0, 1, -1, 127, 128, -128, -129, 255, 256, 32767, -32768, 32768, 65535, 65536,
            2147483647L, -2147483648L, 2147483648L, 4294967295L, 4294967296L, Long.MAX_VALUE, Long.MIN_VALUE};
        for (int i = 0; i < 50; i++) {
            long v = chance(50) ? edges[random.nextInt(edges.length)] : random.nextInt(300) - 50;
            if (PlainModel.isValue(scalar, v)) {
                return v;
            }
        }
        return 0;
    }

    private void push(long v) {
        both("push(" + v + ")", () -> x.push(v), () -> m.push(v));
    }

    private long thing(int sort, int number, int element) {
        List<Integer> suited = new ArrayList<>();
        for (int i = 0; i < m.things.size(); i++) {
            PlainModel.Thing thing = m.things.get(i);
            if (thing.sort == sort && thing.number == number && thing.element == element) {
                suited.add(i);
            }
        }
        if (suited.isEmpty() || chance(1)) {
            return chance(80) ? pick(m.things.size()) : oddNumber();
        }
        return suited.get(random.nextInt(suited.size()));
    }

    private void pushStruct(int n) {
        for (int[] leaf : m.leaves(n)) {
            push(valueOf(leaf[0]));
        }
    }

    private void makeText() {
        tape("abcdefghijklmnopqrstuvwxyz0123456789".substring(0, random.nextInt(chance(90) ? 9 : 30)));
        both("text()", x::text, m::text);
    }

    /** So long a text that what comes ahead of it goes to the edge of the row. */
    private void makeLongText() {
        int[] bytes = new int[3800 + random.nextInt(196)];
        java.util.Arrays.fill(bytes, 'x');
        tape(bytes);
        both("text()", x::text, m::text);
    }

    private void makeVector(int sort, int n) {
        int many = random.nextInt(4);
        for (int i = 0; i < many; i++) {
            if (sort == 0 && n >= 0 && n < 11) {
                push(valueOf(n));
            } else if (sort == 2 && m.size(4, n) > 0) {
                pushStruct(n);
            } else {
                push(thing(sort, sort == 1 ? 0 : n, -1));
            }
        }
        if (chance(2)) {
            push(1);
        }
        both("vector(" + sort + ", " + n + ")", () -> x.vector(sort, n), () -> m.vector(sort, n));
    }

    private void makeAnyVector() {
        int sort = chance(97) ? random.nextInt(4) : oddNumber();
        int most = sort == 0 ? 11 : Math.max(1, m.size(sort == 2 ? 0 : 1, 0));
        makeVector(sort, chance(97) ? random.nextInt(most) : oddNumber());
    }

    private void set(int f) {
        int sort = m.field(false, m.open, f, 0);
        int number = m.field(false, m.open, f, 1);
        int element = m.field(false, m.open, f, 2);
        if (sort == 0) {
            push(chance(20) ? m.standard(m.open, f) : valueOf(number));
        } else if (sort == 2) {
            pushStruct(number);
        } else if (sort == 4) {
            int which = 1 + random.nextInt(m.size(9, number));
            PlainModel.Def union = m.schema.get("union", number);
            push(chance(98) ? which : oddNumber());
            push(thing(3, union.at(which - 1).type.number, -1));
        } else if (sort != -1) {
            push(thing(sort, number, element));
        }
        if (chance(1)) {
            push(0);
        }
        both("set(" + f + ")", () -> x.set(f), () -> m.set(f));
    }

    /** A thing that a field wants, if it wants one and there may be none. */
    private void prepareFor(PlainModel.Type type, int depth) {
        if (type.sort == 1) {
            makeText();
        } else if (type.sort == 5 && type.element.sort == 1) {
            makeText();
            makeVector(1, oddNumber());
        } else if (type.sort == 5) {
            if (type.element.sort == 3 && depth > 0) {
                makeTable(type.element.number, depth - 1);
            }
            makeVector(type.element.sort, type.element.number);
        } else if (type.sort == 3 && depth > 0) {
            makeTable(type.number, depth - 1);
        } else if (type.sort == 4 && depth > 0) {
            PlainModel.Def union = m.schema.get("union", type.number);
            makeTable(union.at(random.nextInt(union.fields.size())).type.number, depth - 1);
        }
    }

    private void makeTable(int n, int depth) {
        int fields = Math.max(0, m.size(7, n));
        for (int f = 0; f < fields && goesOn(); f++) {
            PlainModel.F field = m.schema.get("table", n).at(f);
            if (chance(field.required ? 90 : 50)) {
                prepareFor(field.type, depth);
            }
        }
        both("begin(" + n + ")", () -> {
            x.begin(n);
            return 0;
        }, () -> {
            m.begin(n);
            return 0;
        });
        for (int i = 0; i < fields && goesOn(); i++) {
            int f = chance(97) ? (chance(60) ? i : random.nextInt(fields)) : oddNumber();
            if (chance(75) || f >= 0 && f < fields && m.schema.get("table", n).at(f).required) {
                set(f);
            }
        }
        if (chance(2)) {
            makeText();
        }
        both("ready()", x::ready, m::ready);
        both("count(2)", () -> x.count(2), () -> m.count(2));
        both("count(7)", () -> x.count(7), () -> m.count(7));
        if (m.open >= 0 && goesOn()) {
            for (int f = 0; f < fields && goesOn(); f++) {
                if (m.schema.get("table", n).at(f).required) {
                    set(f);
                }
            }
            both("ready()", x::ready, m::ready);
            if (m.open >= 0) {
                both("clear()", x::clear, m::clear);
            }
        }
    }

    private void build() {
        int root = m.size(3, 0);
        int extra = random.nextInt(3);
        for (int i = 0; i < extra && goesOn(); i++) {
            if (chance(30)) {
                makeText();
            } else if (chance(50)) {
                makeAnyVector();
            } else {
                makeTable(pick(m.size(1, 0)), 0);
            }
        }
        makeTable(root, 2);
        int thing = chance(95) ? (int) thing(3, root, -1) : oddNumber();
        both("finish(" + thing + ")", () -> x.finish(thing), () -> m.finish(thing));
        for (int i = 0; i < 12 && goesOn(); i++) {
            int place = random.nextInt(m.out.length + 1) - (chance(3) ? 1 : 0);
            both("out(" + place + ")", () -> x.out(place), () -> m.out(place));
        }
    }

    // ---- judging, reading

    private void load(int from) {
        both("load(" + from + ")", () -> x.load(from), () -> m.load(from));
        both("fault(2)", () -> x.fault(2), () -> m.fault(2));
        both("fault(3)", () -> x.fault(3), () -> m.fault(3));
        both("count(8)", () -> x.count(8), () -> m.count(8));
        loadFaults[m.fault(2)]++;
    }

    private int[] spoilBytes(int[] bytes) {
        int[] changed = bytes.clone();
        int times = 1 + random.nextInt(2);
        for (int i = 0; i < times && changed.length > 0; i++) {
            int place = chance(40) ? random.nextInt(Math.min(24, changed.length)) : random.nextInt(changed.length);
            int[] some = {0, 1, 2, 3, 4, 5, 6, 8, 12, 16, 20, 24, 28, 32, 127, 128, 252, 254, 255};
            if (chance(50)) {
                changed[place] = some[random.nextInt(some.length)];
            } else {
                changed[place] = changed[place] + (random.nextInt(9) - 4) & 255;
            }
        }
        if (chance(12)) {
            changed = java.util.Arrays.copyOf(changed, random.nextInt(changed.length + 1));
        }
        return changed;
    }

    private void walk(int steps) {
        for (int i = 0; i < steps && goesOn(); i++) {
            int k = chance(95) ? pick(m.node(3)) : oddNumber();
            int action = random.nextInt(12);
            if (action < 4) {
                both("into(" + k + ")", () -> x.into(k), () -> m.into(k));
            } else if (action < 5) {
                both("up()", x::up, m::up);
            } else if (action < 8) {
                both("read(" + k + ")", () -> x.read(k), () -> m.read(k));
            } else if (action < 9) {
                both("has(" + k + ")", () -> x.has(k), () -> m.has(k));
            } else if (action < 10) {
                int what = chance(95) ? random.nextInt(5) : oddNumber();
                both("node(" + what + ")", () -> x.node(what), () -> m.node(what));
            } else if (action < 11) {
                long v = chance(80) ? random.nextInt(40) - 2 : valueOf(random.nextInt(11));
                both("write(" + k + ", " + v + ")", () -> x.write(k, v), () -> m.write(k, v));
            } else {
                int place = chance(90) ? pick(m.buffer.length) : oddNumber();
                both("byteAt(" + place + ")", () -> x.byteAt(place), () -> m.byteAt(place));
            }
        }
    }

    private void askCounts() {
        for (int i = 0; i < 9; i++) {
            int what = i;
            both("count(" + what + ")", () -> x.count(what), () -> m.count(what));
        }
    }

    /** Calls in no order, by any numbers. */
    private void wild() {
        readSchema(chance(90) ? makeSchema() : "");
        while (goesOn()) {
            int a = chance(70) ? random.nextInt(4) : oddNumber();
            int b = chance(70) ? random.nextInt(4) : oddNumber();
            long v = chance(70) ? random.nextInt(6) - 1 : valueOf(random.nextInt(11));
            switch (random.nextInt(21)) {
                case 0:
                case 1:
                case 2:
                    push(v);
                    break;
                case 3:
                    both("vector(" + a + ", " + b + ")", () -> x.vector(a, b), () -> m.vector(a, b));
                    break;
                case 4:
                    both("text()", x::text, m::text);
                    break;
                case 5:
                case 6:
                    both("begin(" + a + ")", () -> {
                        x.begin(a);
                        return 0;
                    }, () -> {
                        m.begin(a);
                        return 0;
                    });
                    break;
                case 7:
                case 8:
                    both("set(" + a + ")", () -> x.set(a), () -> m.set(a));
                    break;
                case 9:
                case 10:
                    both("ready()", x::ready, m::ready);
                    break;
                case 11:
                    both("finish(" + a + ")", () -> x.finish(a), () -> m.finish(a));
                    break;
                case 12:
                    if (chance(10)) {
                        both("clear()", x::clear, m::clear);
                    }
                    break;
                case 13:
                    end(a);
                    break;
                case 14:
                    both("feed", () -> x.feed(a, b, a, b, a), () -> m.feed(a, b, a, b, a));
                    break;
                case 15:
                    both("find", () -> x.find(b > 1, a), () -> m.find(b > 1, a));
                    break;
                case 16:
                case 17:
                    load(a);
                    break;
                case 18:
                    both("count(" + a + ")", () -> x.count(a), () -> m.count(a));
                    break;
                case 19:
                    if (chance(10)) {
                        readSchema(makeSchema());
                    }
                    break;
                default:
                    walk(3);
            }
        }
    }

    /** Bytes that no building makes: tables that lead to many others, far within one another. */
    private void deep() {
        readSchema("struct S{a:bool;b:int;c:bool;}union U{L,T}table T{a:T;v:[T];u:U;n:text;s:[S];k:bool;}"
            + "table L{a:T;v:[L](required);}root T;");
        while (goesOn()) {
            int[] bytes = deepBytes(8 + random.nextInt(14));
            tape(bytes);
            load(0);
            walk(12);
            if (chance(50)) {
                tape(spoilBytes(bytes));
                load(0);
                walk(6);
            }
        }
    }

    /** Each table has its list, itself (28 bytes), a vector, a text and a vector of structs, one behind the other. */
    private int[] deepBytes(int tables) {
        int[] places = new int[tables + 1];
        int[] elements = new int[tables];
        places[0] = 4;
        for (int i = 0; i < tables; i++) {
            elements[i] = chance(80) ? random.nextInt(3) : random.nextInt(30);
            places[i + 1] = places[i] + 20 + 28 + 4 + 4 * elements[i] + 8 + 16;
        }
        int[] bytes = new int[Math.min(4000, places[tables])];
        putNumber(bytes, 0, 4, places[0] + 20);
        for (int i = 0; i < tables; i++) {
            putTable(bytes, places, elements[i], i);
        }
        return bytes;
    }

    private void putTable(int[] bytes, int[] places, int elements, int i) {
        int list = places[i];
        int p = list + 20;
        int[] offsets = {4, 8, 24, 12, 16, 20, 25};
        int last = i == places.length - 2 ? 0 : 80;
        boolean hasUnion = chance(last / 2);
        boolean[] areThere = {chance(last), chance(last), hasUnion, hasUnion, chance(30), chance(30), chance(30)};
        putNumber(bytes, list, 2, 18);
        putNumber(bytes, list + 2, 2, 28);
        for (int slot = 0; slot < offsets.length; slot++) {
            putNumber(bytes, list + 4 + 2 * slot, 2, areThere[slot] ? offsets[slot] : 0);
        }
        int vector = p + 28;
        int text = vector + 4 + 4 * elements;
        putNumber(bytes, p, 4, 20);
        putNumber(bytes, p + 4, 4, laterTable(places, i) - (p + 4));
        putNumber(bytes, p + 8, 4, vector - (p + 8));
        putNumber(bytes, p + 12, 4, laterTable(places, i) - (p + 12));
        putNumber(bytes, p + 16, 4, text - (p + 16));
        putNumber(bytes, p + 20, 4, text + 8 - (p + 20));
        putNumber(bytes, p + 24, 1, chance(90) ? 2 : random.nextInt(4));
        putNumber(bytes, p + 25, 1, chance(97) ? 1 : 2);
        putNumber(bytes, vector, 4, elements);
        for (int k = 0; k < elements; k++) {
            int q = vector + 4 + 4 * k;
            putNumber(bytes, q, 4, laterTable(places, i) - q);
        }
        putNumber(bytes, text, 4, 3);
        putNumber(bytes, text + 8, 4, 1);
        putNumber(bytes, text + 12, 1, chance(97) ? 1 : 2);
    }

    private int laterTable(int[] places, int i) {
        int later = i + 1 + (chance(80) ? 0 : random.nextInt(3));
        return places[Math.min(later, places.length - 2)] + 20;
    }

    private static void putNumber(int[] bytes, int place, int count, int number) {
        for (int i = 0; i < count && place + i < bytes.length; i++) {
            bytes[place + i] = number >> 8 * i & 255;
        }
    }

    private void play() {
        if (chance(15)) {
            wild();
            return;
        }
        if (chance(5)) {
            deep();
            return;
        }
        String text = chance(8) ? crowded() : makeSchema();
        if (chance(40)) {
            for (int i = 0; i < 3; i++) {
                readSchema(spoil(text));
            }
        }
        readSchema(text);
        askSchema(10);
        if (m.schema == null) {
            makeText();
            makeAnyVector();
            walk(20);
            askCounts();
            return;
        }
        if (chance(6)) {
            makeLongText();
        }
        while (goesOn()) {
            build();
            load(chance(98) ? 1 : oddNumber());
            walk(25);
            for (int i = 0; i < 4 && m.out.length < 400 && goesOn(); i++) {
                tape(spoilBytes(m.out));
                load(0);
                walk(8);
            }
            if (chance(20)) {
                readSchema(chance(50) ? text : spoil(text));
            }
            askCounts();
        }
    }
}
