/** Promises 1 to 9, sentence by sentence: a new object, the tape, the schema. */
public final class EdgesOfPromises1To9Test {
    private static final String ISE = "IllegalStateException";
    private static final String IAE = "IllegalArgumentException";
    private static final String NSE = "NoSuchElementException";
    private static final int[] FAR = {Integer.MIN_VALUE, Integer.MIN_VALUE + 1, -2, -1, 4000, 65536,
        Integer.MAX_VALUE - 1,
        Integer.MAX_VALUE};

    public static void main(String[] args) {
        all();
        Check.end();
    }

    static void all() {
        fiveHundredAndTwelveCalls();
        newObject();
        feed();
        end();
        schema();
        schemaThrows();
        fault();
        size();
        field();
        standard();
        find();
    }

    private static void fiveHundredAndTwelveCalls() {
        Check.sentence("What it is", "An object is used for at most 512 calls after it has been made; what later calls"
            + " answer is free.");
        Counted x = new Counted();
        for (int i = 1; i < 512; i++) {
            x.push(i);
        }
        Check.same("calls so far", 511, x::calls);
        Check.same("the last one", 511, () -> x.count(1));
    }

    private static void newObject() {
        Check.sentence("Promise 1", "No SCHEMA,");
        Counted x = new Counted();
        for (int i = 0; i <= 9; i++) {
            int what = i;
            Check.same("size(" + what + ", 0)", what < 3 ? 0 : -1, () -> x.size(what, 0));
        }
        Check.same("a field of a table", -1, () -> x.field(false, 0, 0, 0));
        Check.same("a field of a struct", -1, () -> x.field(true, 0, 0, 0));
        Check.same("a default", 0, () -> x.standard(0, 0));
        Check.same("find()", -1, () -> x.find(false, 0));
        Check.same("begin()", NSE, () -> x.begin(0));
        Check.same("load(0)", ISE, () -> x.load(0));
        Check.same("load(1)", ISE, () -> x.load(1));
        Check.same("a vector of structs", IAE, () -> x.vector(2, 0));
        Check.same("a vector of tables", IAE, () -> x.vector(3, 0));
        Check.same("finish()", IAE, () -> x.finish(0));
        Check.same("fault(0)", 0, () -> x.fault(0));
        Check.same("fault(1)", 0, () -> x.fault(1));
        Check.sentence("Promise 1", "no BUFFER;");
        Check.same("count(6)", 0, () -> x.count(6));
        Check.same("count(8)", 0, () -> x.count(8));
        for (int i = 0; i <= 4; i++) {
            int what = i;
            Check.same("node(" + what + ")", -1, () -> x.node(what));
        }
        Check.same("has()", -1, () -> x.has(0));
        Check.same("read()", NSE, () -> x.read(0));
        Check.same("into()", -1, () -> x.into(0));
        Check.same("up()", -1, x::up);
        Check.same("write()", false, () -> x.write(0, 0));
        Check.same("byteAt()", -1, () -> x.byteAt(0));
        Check.same("fault(2)", 0, () -> x.fault(2));
        Check.same("fault(3)", 0, () -> x.fault(3));
        Check.sentence("Promise 1", "an empty TAPE, ROW, OUT, no VALUES.");
        Counted y = new Counted();
        Check.same("the tape", 0, () -> y.count(0));
        Check.same("end(0)", true, () -> y.end(0));
        Check.same("end(1)", false, () -> y.end(1));
        Check.same("the row", 0, () -> y.count(2));
        Check.same("things", 0, () -> y.count(3));
        Check.same("no open table", -1, () -> y.count(4));
        Check.same("ready()", ISE, y::ready);
        Check.same("set()", ISE, () -> y.set(0));
        Check.same("lists", 0, () -> y.count(7));
        Check.same("clear()", 0, y::clear);
        Check.same("the out", 0, () -> y.count(5));
        Check.same("out(0)", -1, () -> y.out(0));
        Check.same("values", 0, () -> y.count(1));
        // What needs no schema.
        Check.same("an empty text", 0, y::text);
        Check.same("an empty vector", 1, () -> y.vector(0, 0));
        Check.same("a vector of texts", 2, () -> y.vector(1, 0, 0));
    }

    private static void feed() {
        Check.sentence("Promise 2", "Twenty bytes come behind those on THE TAPE, of each number the highest first: how"
            + " many it has.");
        Counted x = Counted.with("table T{t:text;}root T;");
        Check.same("twenty", 20, () -> x.feed(0x01020304, 0x7f80ff00, -1, 0, Integer.MIN_VALUE));
        x.end(19);
        Check.same("behind 19", 39, () -> x.feed(0x11121314, 0x15161718, 0x191a1b1c, 0x1d1e1f20, 0x21222324));
        x.readFrom(x.table(0, 0, x.text()));
        x.into(0);
        int[] due = {1, 2, 3, 4, 0x7f, 0x80, 0xff, 0, 255, 255, 255, 255, 0, 0, 0, 0, 0x80, 0, 0, 0x11, 0x12, 0x13,
            0x14, 0x15,
            0x16, 0x17, 0x18, 0x19, 0x1a, 0x1b, 0x1c, 0x1d, 0x1e, 0x1f, 0x20, 0x21, 0x22, 0x23, 0x24};
        Check.same("so many", due.length, () -> x.node(3));
        for (int i = 0; i < due.length; i++) {
            int k = i;
            Check.same("byte " + k, due[k], () -> x.read(k));
        }
        Check.sentence("Promise 2", "NONE, and none come, if there would be more than 4000.");
        Counted y = new Counted();
        y.tape(new byte[3980]);
        Check.same("3980 and 20", 4000, () -> y.feed(1, 2, 3, 4, 5));
        Check.same("4000 and 20", -1, () -> y.feed(1, 2, 3, 4, 5));
        Check.same("none came", 4000, () -> y.count(0));
        y.end(3981);
        Check.same("3981 and 20", -1, () -> y.feed(1, 2, 3, 4, 5));
        Check.same("none came", 3981, () -> y.count(0));
        y.end(3980);
        Check.same("3980 and 20", 4000, () -> y.feed(1, 2, 3, 4, 5));
        y.end(3999);
        Check.same("3999 and 20", -1, () -> y.feed(1, 2, 3, 4, 5));
        y.end(0);
        Check.same("0 and 20", 20, () -> y.feed(1, 2, 3, 4, 5));
        // What was on the tape is as it was.
        Counted z = Counted.with("table T{t:text;}root T;");
        z.tape(Raw.full(3981, 0xaa));
        Check.same("3981 and 20", -1, () -> z.feed(-1, -1, -1, -1, -1));
        z.end(3900);
        z.readFrom(z.table(0, 0, z.text()));
        z.into(0);
        Check.same("the first", 0xaa, () -> z.read(0));
        Check.same("the last", 0xaa, () -> z.read(3899));
    }

    private static void end() {
        Check.sentence("Promise 3", "THE TAPE has its first n bytes alone: true;");
        Counted x = Counted.with("table T{a:int;ab:int;abc:int;}root T;");
        for (int i = 1; i <= 3; i++) {
            int n = i;
            x.feed(0x61626364, 0, 0, 0, 0);
            Check.same("end(" + n + ")", true, () -> x.end(n));
            Check.same("so many", n, () -> x.count(0));
            Check.same("the first", n - 1, () -> x.find(false, 0));
        }
        x.feed(0, 0, 0, 0, 0);
        Check.same("all of them", true, () -> x.end(20));
        Check.same("so many", 20, () -> x.count(0));
        Check.same("none of them", true, () -> x.end(0));
        Check.same("so many", 0, () -> x.count(0));
        Check.same("none of none", true, () -> x.end(0));
        aloneForOthers();
        Check.sentence("Promise 3", "false if it has not so many, or n is below 0.");
        Check.same("1 of none", false, () -> x.end(1));
        x.feed(0, 0, 0, 0, 0);
        Check.same("21 of 20", false, () -> x.end(21));
        for (int n : FAR) {
            Check.same("end(" + n + ")", false, () -> x.end(n));
            Check.same("nothing changes", 20, () -> x.count(0));
        }
        x.end(7);
        Check.same("8 of 7", false, () -> x.end(8));
        Check.same("nothing changes", 7, () -> x.count(0));
    }

    /** What was cut off is not looked at by the calls that read the tape. */
    private static void aloneForOthers() {
        Counted x = new Counted();
        Object[][] cuts = {{"table T{}root Tabc;", 15, 2, 15}, {"table T{a:int=55;}", 15, 2, 15},
            {"table T{a:int=-5;}", 15, 1, 14},
            {"table T{}root T;//", 17, 1, 16}, {"table T{}root T;", 15, 2, 15}, {"table T{}root T;", 9, 2, 9},
            {"// x\ntable T{}root T;", 4, 2, 4}, {"table T{}root T;", 0, 2, 0}};
        for (Object[] cut : cuts) {
            x.tapeCut((String) cut[0], (int) cut[1]);
            Check.same("schema of " + cut[0] + ", cut to " + cut[1], IAE, x::schema);
            Check.same("kind", cut[2], () -> x.fault(0));
            Check.same("place", cut[3], () -> x.fault(1));
        }
        x.tapeCut("table T{ab:int;a:int;t:text;}root T;$", 36);
        Check.same("a schema", 1, x::schema);
        x.tapeCut("ab", 1);
        Check.same("find a", 1, () -> x.find(false, 0));
        x.tapeCut("abcde", 3);
        x.readFrom(x.table(0, 2, x.text()));
        Check.same("a text of abc", "4 3", () -> x.into(2) + " " + x.node(3));
        x.tape(Raw.hex("08000000 0400 0400 04000000"));
        x.end(11);
        Check.same("eleven bytes", false, () -> x.load(0));
        Check.same("kind", 2, () -> x.fault(2));
    }

    private static void schema() {
        Check.sentence("Promise 4", "THE TAPE is the SCHEMA: how many TABLES it has.");
        Counted x = new Counted();
        x.tape("table T{}root T;");
        Check.same("one", 1, x::schema);
        x.tape("struct S{a:int;}" + Raw.repeat(16, "table T#{}") + "union U{T0}root T7;");
        Check.same("sixteen", 16, x::schema);
        Check.same("the tape is empty", IAE, x::schema);
        Check.same("which is a fault", 2, () -> x.fault(0));
        Check.same("at its end", 0, () -> x.fault(1));
        nothingOfFormerOnes();
        Check.sentence("Promise 4", "What was built (ROW, THINGS, an open TABLE), THE BUFFER are gone;");
        Counted y = Counted.with("table T{a:int;}root T;");
        y.readFrom(y.table(0, 0, 5));
        y.text("abc");
        y.table(0);
        y.begin(0);
        y.set(0, 9);
        y.push(3);
        y.push(4);
        y.tape("table T{a:int;}root T;");
        Check.same("the same schema again", 1, y::schema);
        int[] due = {0, 2, 0, 0, -1, 20, 0, 0};
        for (int i = 0; i < due.length; i++) {
            int what = i;
            Check.same("count(" + what + ")", due[what], () -> y.count(what));
        }
        Check.same("no thing", IAE, () -> y.finish(0));
        Check.same("no node", -1, () -> y.node(0));
        Check.same("no node above", -1, y::up);
        Check.same("no part", -1, () -> y.has(0));
        Check.same("no byte", -1, () -> y.byteAt(0));
        Check.same("ready()", ISE, y::ready);
        y.push(5);
        y.begin(0);
        Check.same("nothing of the former table is set", IAE, () -> y.set(0));
        Check.same("nor there", true, () -> y.set(0, 9));
        Check.sentence("Promise 4", "THE OUT, VALUES stay.");
        Counted z = Counted.with("table T{a:int;}root T;");
        z.finish(z.table(0, 0, 5));
        z.push(6);
        z.tape("table E{b:short;}root E;");
        z.schema();
        Check.same("bytes of the out", 20, () -> z.count(5));
        Check.same("its last int", 5, () -> z.out(16));
        Check.same("values", 1, () -> z.count(1));
        z.begin(0);
        Check.same("they can be used", true, () -> z.set(0));
        z.clear();
        Check.same("the out is judged against the new schema", true, () -> z.load(1));
        Check.same("its b", 5, () -> z.read(0));
    }

    /** One schema behind the other, and some with faults between: each is as if it were the first. */
    private static void nothingOfFormerOnes() {
        String rich = "struct S{a:bool;b:double;}struct R{a:S;b:S;}table"
            + " T{a:ushort=9;b:text(required);c:[S](required);d:U(required);"
            + "e:[text];f:S;g:[T];}table V{a:int=7;b:[int];c:V;d:bool=1;}union U{V,T}union W{T,V}root V;";
        String plain = "table A{a:text;b:ubyte;c:float;d:[bool];e:A;f:bool;}struct P{a:byte;b:bool;}union Q{A}root A;";
        int[][] fields = {{1, 0, -1, 0, 0}, {0, 2, -1, 1, 0}, {0, 9, -1, 2, 0}, {5, 0, 0, 3, 0}, {3, 0, -1, 4, 0},
            {0, 0, -1, 5, 0}};
        Counted x = new Counted();
        for (String between : new String[] {"", "struct S{a:long;b:S;}", "table T{a:int=5;b:[T](required);c:X;}root"
            + " T;"}) {
            x.tape(rich);
            Check.same("a rich one", 2, x::schema);
            if (!between.isEmpty()) {
                x.tape(between);
                Check.same("one with a fault", IAE, x::schema);
            } else {
                x.tape(rich);
                Check.same("it again", 2, x::schema);
            }
            x.tape(plain);
            Check.same("a plain one", 1, x::schema);
            for (int f = 0; f < fields.length; f++) {
                int k = f;
                Check.same("its field " + k, java.util.Arrays.toString(fields[k]), () -> "[" + x.field(false, 0, k,
                    0) + ", "
                    + x.field(false, 0, k, 1) + ", " + x.field(false, 0, k, 2) + ", " + x.field(false, 0, k, 3) + ", "
                    + x.field(false, 0, k, 4) + "]");
                Check.same("its default " + k, 0, () -> x.standard(0, k));
            }
            Check.same("its numbers", "1 1 1 0 2 2 1 6 6 1", () -> x.size(0, 0) + " " + x.size(1, 0) + " "
                + x.size(2, 0) + " "
                + x.size(3, 0) + " " + x.size(4, 0) + " " + x.size(5, 0) + " " + x.size(6, 0) + " " + x.size(7, 0) + " "
                + x.size(8, 0) + " " + x.size(9, 0));
            Check.same("its struct's", "0 1 1", () -> x.field(true, 0, 0, 3) + " " + x.field(true, 0, 1, 3) + " "
                + x.field(true, 0, 0, 1));
            Check.same("a struct has two values", 0, () -> x.vector(2, 0, 1, 1));
        }
    }

    private static void schemaThrows() {
        Check.sentence("Promise 4", "IllegalArgumentException: a FAULT (all but THE TAPE stays).");
        Counted x = new Counted();
        x.tape("table T{}root U;");
        Check.same("a fault", IAE, x::schema);
        Check.same("no schema then", 0, () -> x.size(1, 0));
        Check.same("no root then", -1, () -> x.size(3, 0));
        Check.same("load()", ISE, () -> x.load(1));
        x.tape("struct S{a:int;}table T{a:int=5;s:S;}union U{T}root T;");
        x.schema();
        x.readFrom(x.table(0, 0, 7));
        x.into(0);
        x.text("abc");
        x.begin(0);
        x.set(0, 8);
        x.push(1);
        String before = x.state();
        String[] faults = {"", "$", "table", "table E{}table F{}root F", "struct S{a:S;}", "table E{a:bool=2;}",
            "table E{}table E{}", "struct Q{a:long;}struct R{a:Q;}table E{a:R;}union V{E}root X;"};
        for (int i = 0; i < 3; i++) {
            x.tape(faults[i]);
            Check.same("schema of " + faults[i], IAE, x::schema);
        }
        Check.same("all stays", before.replace("fault 0 0", "fault 2 5"), x::state);
        for (int i = 3; i < faults.length; i++) {
            x.tape(faults[i]);
            Check.same("schema of " + faults[i], IAE, x::schema);
            Check.same("the tape is empty", 0, () -> x.count(0));
        }
        Check.same("all stays", before.replace("fault 0 0", "fault 5 59"), x::state);
        Check.same("the values stay", 1, () -> x.count(1));
        Check.same("the fields stay", 2, () -> x.size(7, 0));
        Check.same("the defaults stay", 5, () -> x.standard(0, 0));
        Check.same("the names stay", 1, () -> x.find(false, 0, "s"));
        Check.same("the struct stays", 4, () -> x.size(5, 0));
        Check.same("the values are used", true, () -> x.set(1));
        Check.same("the open table is ready", 1, x::ready);
    }

    private static void fault() {
        Check.sentence("Promise 5", "Of the latest schema() (what 0: its kind, 1: its place),");
        Counted x = new Counted();
        x.tape("table T{} $");
        Check.same("a fault", IAE, x::schema);
        Check.same("kind", 1, () -> x.fault(0));
        Check.same("place", 10, () -> x.fault(1));
        x.tape("table T{}root ;");
        Check.same("another one", IAE, x::schema);
        Check.same("kind", 2, () -> x.fault(0));
        Check.same("place", 14, () -> x.fault(1));
        Check.sentence("Promise 5", "of the latest load() (2, 3): what was wrong;");
        x.tape("table T{a:bool;}root T;");
        x.schema();
        byte[] bytes = Raw.hex("0c000000 0600 0800 0400 0000 08000000 02000000");
        Check.same("a bool that is none", false, () -> x.load(bytes));
        Check.same("kind", 11, () -> x.fault(2));
        Check.same("place", 16, () -> x.fault(3));
        Check.same("kind of the schema's", 0, () -> x.fault(0));
        Check.same("the out, which is empty", false, () -> x.load(1));
        Check.same("kind", 1, () -> x.fault(2));
        Check.same("place", 0, () -> x.fault(3));
        x.tape("");
        Check.same("a schema with a fault", IAE, x::schema);
        Check.same("kind of the latest load()", 1, () -> x.fault(2));
        Check.sentence("Promise 5", "0 and 0 without, or ahead of any.");
        Check.same("a bool that is none", false, () -> x.load(bytes));
        Check.same("one that is one", true, () -> x.load(Raw.with(bytes, 16, 1)));
        Check.same("kind", 0, () -> x.fault(2));
        Check.same("place", 0, () -> x.fault(3));
        x.tape("table T{}root T;");
        x.schema();
        Check.same("kind", 0, () -> x.fault(0));
        Check.same("place", 0, () -> x.fault(1));
        Counted y = new Counted();
        for (int i = 0; i < 4; i++) {
            int what = i;
            Check.same("ahead of any: fault(" + what + ")", 0, () -> y.fault(what));
        }
        y.tape("$");
        Check.same("a schema with a fault", IAE, y::schema);
        Check.same("ahead of any load(): kind", 0, () -> y.fault(2));
        Check.same("ahead of any load(): place", 0, () -> y.fault(3));
        Check.sentence("Promise 5", "NONE for another what.");
        Check.same("fault(4)", -1, () -> y.fault(4));
        for (int what : FAR) {
            Check.same("fault(" + what + ")", -1, () -> y.fault(what));
        }
    }

    private static void size() {
        Check.sentence("Promise 6", "How many there are, what 0: STRUCTS, 1: TABLES, 2: UNIONS; 3: the root TABLE's"
            + " number; of STRUCT n, 4: FIELDS, 5: SIZE, 6: ALIGNMENT; of TABLE n, 7: FIELDS, 8: SLOTS; of UNION n, 9:"
            + " members.");
        Counted x = Counted.with("struct A{a:byte;}struct B{a:short;b:A;c:int;d:bool;}table T{}table"
            + " V{a:U;b:int;c:W;}union U{V}"
            + "union W{T,V}table X{}root V;");
        int[][] due = {{0, 0, 2}, {1, 0, 3}, {2, 0, 2}, {3, 0, 1}, {4, 0, 1}, {4, 1, 4}, {5, 0, 1}, {5, 1, 12}, {6,
            0, 1},
            {6, 1, 4}, {7, 0, 0}, {7, 1, 3}, {7, 2, 0}, {8, 0, 0}, {8, 1, 5}, {8, 2, 0}, {9, 0, 1}, {9, 1, 2}};
        for (int[] row : due) {
            Check.same("size(" + row[0] + ", " + row[1] + ")", row[2], () -> x.size(row[0], row[1]));
        }
        for (int n : FAR) {
            Check.same("n does not matter", "2 3 2 1", () -> x.size(0, n) + " " + x.size(1, n) + " " + x.size(2, n)
                + " "
                + x.size(3, n));
        }
        Check.sentence("Promise 6", "NONE if there is none such,");
        int[][] none = {{4, 2}, {5, 2}, {6, 2}, {7, 3}, {8, 3}, {9, 2}, {10, 0}, {11, 0}};
        for (int[] row : none) {
            Check.same("size(" + row[0] + ", " + row[1] + ")", -1, () -> x.size(row[0], row[1]));
        }
        for (int n : FAR) {
            for (int i = 4; i <= 9; i++) {
                int what = i;
                Check.same("size(" + what + ", " + n + ")", -1, () -> x.size(what, n));
            }
            Check.same("size(" + n + ", 0)", -1, () -> x.size(n, 0));
        }
        // What a former schema had is gone.
        x.tape("table T{}root T;");
        x.schema();
        Check.same("no struct", -1, () -> x.size(5, 0));
        Check.same("no second table", -1, () -> x.size(7, 1));
        Check.same("no union", -1, () -> x.size(9, 0));
        Check.same("no structs", 0, () -> x.size(0, 0));
        Check.sentence("Promise 6", "or no SCHEMA (0 .. 2: 0).");
        Counted y = new Counted();
        for (int i = 0; i <= 9; i++) {
            int what = i;
            Check.same("size(" + what + ", 0)", what <= 2 ? 0 : -1, () -> y.size(what, 0));
        }
    }

    private static void field() {
        Check.sentence("Promise 7", "Of FIELD f of TABLE n (of STRUCT n, if isStruct), what 0: its sort: 0 SCALAR, 1"
            + " TEXT, 2 STRUCT, 3 TABLE, 4 UNION, 5 VECTOR; 1: the number of the SCALAR, STRUCT, TABLE, UNION (of a"
            + " VECTOR of that of its elements; of texts 0); 2: of a VECTOR the sort of its elements, else NONE; 3: its"
            + " SLOT (of a UNION the first of its two; of a STRUCT's FIELD its place in it); 4: whether it is required"
            + " (1, 0).");
        Counted x = Counted.with("struct A{a:byte;}struct B{a:bool;b:double;c:A;}table T{}"
            + "table V{a:W;b:ulong;c:text(required);d:B;e:V(required);f:[float];g:[text];h:[B](required);i:[V];j:U(required);}"
            + "union U{V}union W{T,V}root V;");
        int[][] fields = {{4, 1, -1, 0, 0}, {0, 8, -1, 2, 0}, {1, 0, -1, 3, 1}, {2, 1, -1, 4, 0}, {3, 1, -1, 5, 1},
            {5, 9, 0, 6, 0}, {5, 0, 1, 7, 0}, {5, 1, 2, 8, 1}, {5, 1, 3, 9, 0}, {4, 0, -1, 10, 1}};
        for (int i = 0; i < fields.length; i++) {
            for (int j = 0; j < 5; j++) {
                int f = i;
                int what = j;
                Check.same("field(false, 1, " + f + ", " + what + ")", fields[f][what], () -> x.field(false, 1, f,
                    what));
            }
        }
        int[][] ofStruct = {{0, 0, -1, 0, 0}, {0, 10, -1, 8, 0}, {2, 0, -1, 16, 0}};
        for (int i = 0; i < ofStruct.length; i++) {
            for (int j = 0; j < 5; j++) {
                int f = i;
                int what = j;
                Check.same("field(true, 1, " + f + ", " + what + ")", ofStruct[f][what], () -> x.field(true, 1, f,
                    what));
            }
        }
        Check.sentence("Promise 7", "NONE if there is none such.");
        int[][] none = {{0, 0, 0}, {1, 10, 0}, {2, 0, 0}, {1, 0, 5}};
        for (int[] row : none) {
            Check.same("of a table", -1, () -> x.field(false, row[0], row[1], row[2]));
        }
        int[][] noneOfStruct = {{0, 1, 0}, {1, 3, 0}, {2, 0, 0}, {1, 0, 5}};
        for (int[] row : noneOfStruct) {
            Check.same("of a struct", -1, () -> x.field(true, row[0], row[1], row[2]));
        }
        for (int far : FAR) {
            for (boolean isStruct : new boolean[] {false, true}) {
                Check.same("no such one: " + far, -1, () -> x.field(isStruct, far, 0, 0));
                Check.same("no such field: " + far, -1, () -> x.field(isStruct, 1, far, 0));
                Check.same("no such what: " + far, -1, () -> x.field(isStruct, 1, 0, far));
            }
        }
        x.tape("table T{a:int;}root T;");
        x.schema();
        Check.same("a former table", -1, () -> x.field(false, 1, 0, 0));
        Check.same("a former struct", -1, () -> x.field(true, 0, 0, 0));
        Check.same("a former field", -1, () -> x.field(false, 0, 1, 0));
    }

    private static void standard() {
        Check.sentence("Promise 8", "The DEFAULT of FIELD f of TABLE n;");
        Counted x = Counted.with("table E{a:int=3;}table"
            + " T{a:long=-999999999999999999;b:ulong=999999999999999999;c:bool=1;d:uint=4294967295;"
            + "e:int;f:text;g:S;h:T;i:U;j:[int];k:float;l:double;}struct S{a:int;}union U{T}root T;");
        long[] due = {-999999999999999999L, 999999999999999999L, 1, 4294967295L, 0};
        for (int i = 0; i < due.length; i++) {
            int f = i;
            Check.same("standard(1, " + f + ")", due[f], () -> x.standard(1, f));
        }
        Check.same("standard(0, 0)", 3, () -> x.standard(0, 0));
        Check.sentence("Promise 8", "0 if there is none such, or it takes none.");
        for (int i = 5; i <= 12; i++) {
            int f = i;
            Check.same("standard(1, " + f + ")", 0, () -> x.standard(1, f));
        }
        Check.same("standard(0, 1)", 0, () -> x.standard(0, 1));
        Check.same("standard(2, 0)", 0, () -> x.standard(2, 0));
        for (int far : FAR) {
            Check.same("standard(1, " + far + ")", 0, () -> x.standard(1, far));
            Check.same("standard(" + far + ", 0)", 0, () -> x.standard(far, 0));
        }
        // Where a former schema had one.
        x.tape("table E{a:int;b:bool;c:text;}root E;");
        x.schema();
        Check.same("a field without", 0, () -> x.standard(0, 0));
        Check.same("a former table", 0, () -> x.standard(1, 0));
    }

    private static void find() {
        Check.sentence("Promise 9", "THE TAPE is a NAME: the number of the FIELD of TABLE n (of STRUCT n, if isStruct)"
            + " with just this NAME;");
        Counted x = Counted.with("struct R{z:int;}struct S{a:int;ab:int;}table E{}table"
            + " T{a234567890123456:int;b:int;abcdefgh:int;"
            + "abcdefghi:int;bb:int;a23456789012345:int;_:int;}root T;");
        String[] names = {"a234567890123456", "b", "abcdefgh", "abcdefghi", "bb", "a23456789012345", "_"};
        for (int i = 0; i < names.length; i++) {
            int f = i;
            Check.same("find " + names[f], f, () -> x.find(false, 1, names[f]));
        }
        Check.same("a of S", 0, () -> x.find(true, 1, "a"));
        Check.same("ab of S", 1, () -> x.find(true, 1, "ab"));
        Check.same("z of R", 0, () -> x.find(true, 0, "z"));
        Check.sentence("Promise 9", "NONE if there is none such.");
        for (String none : new String[] {"", "a", "B", "bbb", "abcdefg", "abcdefghij", "a2345678901234567",
            "a23456789012345_",
            " b", "b ", "b\n", "b;", "b\0", "\0b", "b\0\0\0\0\0\0\0", "abcdefgh\0", "abcdefgh\0i",
                "\0\0\0\0\0\0\0\0b", "\0", "ab",
            "z", "int", "T", "//b", "5", "__"}) {
            Check.same("find " + none, -1, () -> x.find(false, 1, none));
        }
        Check.same("a table without fields", -1, () -> x.find(false, 0, "b"));
        Check.same("no such table", -1, () -> x.find(false, 2, "b"));
        Check.same("no such struct", -1, () -> x.find(true, 2, "a"));
        Check.same("a table's in a struct", -1, () -> x.find(true, 1, "b"));
        for (int far : FAR) {
            Check.same("table " + far, -1, () -> x.find(false, far, "b"));
            Check.same("struct " + far, -1, () -> x.find(true, far, "a"));
        }
        Check.same("no schema", -1, () -> new Counted().find(false, 0, "b"));
        Counted y = Counted.with("table T{b:int;}root T;");
        y.tape(Raw.full(4000, 'b'));
        Check.same("4000 signs", -1, () -> y.find(false, 0));
        Check.same("a former tape is gone", 0, () -> y.find(false, 0, "b"));
        ofAllNamesOfTwoBytes();
    }

    private static void ofAllNamesOfTwoBytes() {
        Counted x = Counted.with("table T{ab:int;}root T;");
        int found = 0;
        for (int name = 0; name < 65536; name++) {
            if (x.calls() > 500) {
                x = Counted.with("table T{ab:int;}root T;");
            }
            x.feed(name << 16, 0, 0, 0, 0);
            x.end(2);
            if (x.find(false, 0) != -1) {
                found++;
            }
        }
        int all = found;
        Check.same("of all names of two bytes one is just this", 1, () -> all);
    }
}
