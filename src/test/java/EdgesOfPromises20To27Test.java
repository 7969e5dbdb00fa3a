/** "Terms" 5 and the promises 20 to 27, sentence by sentence: judging, reading. */
public final class EdgesOfPromises20To27Test {
    private static final String READING = "Terms 5";
    private static final String ISE = "IllegalStateException";
    private static final String IAE = "IllegalArgumentException";
    private static final String NSE = "NoSuchElementException";
    private static final int[] FAR = {Integer.MIN_VALUE, Integer.MIN_VALUE + 1, -2, -1, 4000, 65536,
        Integer.MAX_VALUE - 1,
        Integer.MAX_VALUE};
    /** An empty table at 8, its list at 4. */
    private static final byte[] EMPTY = Raw.hex("08000000 0400 0400 04000000");

    public static void main(String[] args) {
        all();
        Check.end();
    }

    static void all() {
        reading();
        parts();
        load();
        loadIsWrong();
        loadThrows();
        node();
        nodeNone();
        has();
        hasNone();
        read();
        readThrows();
        into();
        intoNone();
        up();
        write();
        writeIsRefused();
        writeWouldNotBeAccepted();
        byteAt();
    }

    private static final String SCHEMA = "struct P{a:byte;b:short;}struct S{a:bool;p:P;}"
        + "table T{i:int=-3;t:text;s:S;k:T;v:[S];w:[text];x:[T];y:[ushort];u:U;d:double;}table E{z:int=5;}union"
            + " U{E,T}root T;";

    /** A root with all of its fields but i and d; k has t and i; u is an E. The node at hand is the root. */
    private static Counted built() {
        Counted x = Counted.with(SCHEMA);
        x.text("hey");
        x.text("");
        x.begin(0);
        x.set(1, 0);
        x.set(0, 70000);
        x.ready();
        x.vector(2, 1, 1, -1, 258, 0, 7, -2);
        x.vector(1, 0, 1, 0);
        x.vector(3, 0, 2, 2);
        x.vector(0, 4, 65535, 0, 9);
        x.table(1);
        x.begin(0);
        x.set(1, 0);
        x.set(2, 1, 5, -300);
        x.set(3, 2);
        x.set(4, 3);
        x.set(5, 4);
        x.set(6, 5);
        x.set(7, 6);
        x.set(8, 1, 7);
        Check.same("what is read", true, () -> x.readFrom(x.ready()));
        return x;
    }

    // ---- Terms 5

    private static void reading() {
        Check.sentence(READING, "What was accepted is THE BUFFER.");
        Counted x = Counted.with("table T{}root T;");
        Check.same("none", 0, () -> x.count(6));
        Check.same("what is wrong is not", false, () -> x.load(Raw.with(EMPTY, 0, 0)));
        Check.same("none", 0, () -> x.count(6));
        Check.same("what is accepted", true, () -> x.load(EMPTY));
        Check.same("its bytes", "080000000400040004000000", x::bufferHex);
        Check.sentence(READING, "There is a NODE at hand, with those above it: a TABLE, STRUCT, VECTOR or TEXT.");
        Counted y = built();
        Check.same("a table", "1 0", () -> y.node(0) + " " + y.node(4));
        y.into(4);
        Check.same("a vector", "3 1", () -> y.node(0) + " " + y.node(4));
        y.into(0);
        Check.same("a struct", "2 2", () -> y.node(0) + " " + y.node(4));
        y.up();
        y.up();
        y.into(1);
        Check.same("a text", "4 1", () -> y.node(0) + " " + y.node(4));
        deepest();
    }

    /** 16 tables within one another, a vector behind each, and 12 structs within one another: no more go. */
    private static void deepest() {
        StringBuilder structs = new StringBuilder("struct S0{a:bool;}");
        for (int i = 1; i < 12; i++) {
            structs.append("struct S").append(i).append("{a:S").append(i - 1).append(";}");
        }
        Counted x = Counted.with(structs + "table T{k:[T];v:[S11];}root T;");
        int last = x.table(0, 1, x.vector(2, 11, 1));
        for (int i = 1; i < 16; i++) {
            last = x.table(0, 0, x.vector(3, 0, last));
        }
        int root = last;
        Check.same("it is accepted", true, () -> x.readFrom(root));
        for (int i = 1; i < 16; i++) {
            Check.same("a vector, a table", "3 1", () -> x.into(0) + " " + x.into(0));
        }
        Check.same("a vector", 3, () -> x.into(1));
        for (int i = 0; i < 12; i++) {
            Check.same("a struct", 2, () -> x.into(0));
        }
        Check.same("above it", 43, () -> x.node(4));
        Check.same("the bool", 1, () -> x.read(0));
        for (int i = 0; i < 43; i++) {
            int above = 42 - i;
            Check.same("up", true, () -> x.up() > 0 && x.node(4) == above);
        }
        Check.same("no more", -1, x::up);
    }

    private static void parts() {
        Check.sentence(READING, "PARTS of a NODE: FIELDS of a TABLE, STRUCT, elements of a VECTOR, bytes of a TEXT,"
            + " from 0 on.");
        Counted x = built();
        Check.same("of a table", 10, () -> x.node(3));
        x.into(2);
        Check.same("of a struct", 2, () -> x.node(3));
        x.up();
        x.into(7);
        Check.same("of a vector", "3 65535 0 9", () -> x.node(3) + " " + x.read(0) + " " + x.read(1) + " " + x.read(2));
        x.up();
        x.into(1);
        Check.same("of a text", "3 104 101 121", () -> x.node(3) + " " + x.read(0) + " " + x.read(1) + " " + x.read(2));
        x.up();
        x.into(5);
        x.into(0);
        Check.same("none of a text", 0, () -> x.node(3));
        Counted y = Counted.with("table T{}root T;");
        y.load(EMPTY);
        Check.same("none of a table", 0, () -> y.node(3));
        Counted z = Counted.with("table T{v:[long];}root T;");
        z.readFrom(z.table(0, 0, z.vector(0, 7)));
        z.into(0);
        Check.same("none of a vector", 0, () -> z.node(3));
    }

    // ---- load()

    private static void load() {
        Check.sentence("Promise 20", "THE TAPE (from 0), or THE OUT (1), is judged: true, and it is THE BUFFER (a"
            + " copy), the root TABLE at hand;");
        Counted x = Counted.with("table T{a:int;t:text;}root T;");
        x.text("abc");
        x.begin(0);
        x.set(0, 5);
        x.set(1, 0);
        x.finish(x.ready());
        x.tape(EMPTY);
        Check.same("the out", true, () -> x.load(1));
        Check.same("the tape stays", 12, () -> x.count(0));
        Check.same("its a", 5, () -> x.read(0));
        x.into(1);
        Check.same("the tape", true, () -> x.load(0));
        Check.same("its bytes", 12, () -> x.count(6));
        Check.same("the root", "1 0 8 2 0", () -> x.node(0) + " " + x.node(1) + " " + x.node(2) + " " + x.node(3)
            + " " + x.node(4));
        Check.same("nothing above", -1, x::up);
        Check.same("the out again", true, () -> x.load(1));
        // A copy: the out, the tape, the buffer go their own ways.
        Check.same("write", true, () -> x.write(0, 6));
        Check.same("the out stays", true, () -> x.load(1) && x.read(0) == 5);
        x.finish(x.table(0));
        Check.same("the buffer stays", 5, () -> x.read(0));
        x.tape(Raw.full(60, 0xff));
        Check.same("the buffer stays", 5, () -> x.read(0));
        x.end(0);
        Check.same("a buffer of the tape", true, () -> x.load(Raw.hex("0c000000 0600 0800 0400 0000 08000000"
            + " 07000000")));
        x.tape(Raw.full(60, 0xff));
        Check.same("stays, too", 7, () -> x.read(0));
        // A small one behind a great one.
        Counted y = Counted.with("table T{}root T;");
        y.load(Raw.sized(EMPTY, 4000));
        Check.same("4000 bytes", 4000, () -> y.count(6));
        Check.same("12 bytes", true, () -> y.load(EMPTY));
        Check.same("so many", 12, () -> y.count(6));
        Check.same("what was behind them is gone", -1, () -> y.byteAt(12));
        Check.same("it is not judged with them", false, () -> y.load(Raw.sized(EMPTY, 11)));
    }

    private static void loadIsWrong() {
        Check.sentence("Promise 20", "false: it is wrong (THE BUFFER stays, and what is at hand).");
        Counted x = built();
        x.into(3);
        x.into(1);
        String node = "4 0 " + x.node(2) + " 3 2";
        int bytes = x.count(6);
        byte[][] wrong = {{}, Raw.with(EMPTY, 0, 0), Raw.with(EMPTY, 4, 3), Raw.full(60, 0xff)};
        for (byte[] each : wrong) {
            Check.same("load of " + Check.hex(each), false, () -> x.load(each));
            Check.same("the buffer", bytes, () -> x.count(6));
            Check.same("what is at hand", node, () -> x.node(0) + " " + x.node(1) + " " + x.node(2) + " " + x.node(3)
                + " " + x.node(4));
            Check.same("its bytes", "104 101 121", () -> x.read(0) + " " + x.read(1) + " " + x.read(2));
            Check.same("come to", 5, () -> x.count(8));
        }
        x.up();
        Check.same("what is above", 70000, () -> x.read(0));
        Counted y = Counted.with("table T{}root T;");
        Check.same("an empty out", false, () -> y.load(1));
        Check.same("no buffer", 0, () -> y.count(6));
        Check.same("nothing at hand", -1, () -> y.node(0));
    }

    private static void loadThrows() {
        Check.sentence("Promise 20", "IllegalArgumentException: another from (THE TAPE stays);");
        Counted x = Counted.with("table T{}root T;");
        x.tape(EMPTY);
        Check.same("load(2)", IAE, () -> x.load(2));
        for (int far : FAR) {
            Check.same("load(" + far + ")", IAE, () -> x.load(far));
            Check.same("the tape", 12, () -> x.count(0));
        }
        Check.same("it is as it was", true, () -> x.load(0));
        Check.sentence("Promise 20", "IllegalStateException: there is no SCHEMA (THE TAPE is empty then, too, if from"
            + " is 0).");
        Counted y = new Counted();
        y.tape(EMPTY);
        Check.same("load(1)", ISE, () -> y.load(1));
        Check.same("the tape", 12, () -> y.count(0));
        Check.same("load(2)", IAE, () -> y.load(2));
        Check.same("the tape", 12, () -> y.count(0));
        Check.same("load(0)", ISE, () -> y.load(0));
        Check.same("the tape", 0, () -> y.count(0));
        Check.same("no fault is told", "0 0", () -> y.fault(2) + " " + y.fault(3));
    }

    // ---- node()

    private static void nodes(String what, Counted x, int... due) {
        for (int i = 0; i < due.length; i++) {
            int k = i;
            Check.same(what + ": node(" + k + ")", due[k], () -> x.node(k));
        }
    }

    private static void node() {
        Check.sentence("Promise 21", "Of the NODE at hand, what 0: 1 a TABLE, 2 a STRUCT, 3 a VECTOR, 4 a TEXT; 1: the"
            + " number of the TABLE, STRUCT (of a VECTOR as field() tells, of a TEXT 0); 2: its place in THE BUFFER (of"
            + " a VECTOR, TEXT that of its four bytes); 3: how many PARTS it has; 4: how many NODES are above it.");
        Counted x = Counted.with("struct R{a:int;}struct S{a:byte;b:byte;c:byte;}table E{}table"
            + " T{s:S;t:text;v:[S];w:[text];x:[E];y:[float];"
            + "u:U;}union U{T,E}root T;");
        // The list at 4 (20 bytes), the table at 24: s at 28, which at 31, t at 32, v at 36, w at 40, x at 44, y at 48,
        // u at 52;
        // at 56 the text, at 64 v, at 72 w, at 80 x, at 88 y, at 92 a list, at 96 an empty table.
        byte[] all = Raw.hex("18000000 1400 2000 0400 0800 0c00 1000 1400 1800 0700 1c00 14000000 010203 02 18000000"
            + " 1c000000 20000000"
            + "24000000 28000000 2c000000 02000000 414200 00 01000000 040506 00 01000000 fcffffff 01000000 0c000000"
                + " 00000000"
            + "0400 0400 04000000");
        // A reference leads further on, so w has a text of its own behind all that.
        byte[] good = Raw.with4(Raw.sized(all, 105), 76, 24);
        Check.same("it is accepted", true, () -> x.load(good));
        nodes("the root", x, 1, 1, 24, 7, 0);
        x.into(0);
        nodes("a struct", x, 2, 1, 28, 3, 1);
        x.up();
        x.into(1);
        nodes("a text", x, 4, 0, 56, 2, 1);
        x.up();
        x.into(2);
        nodes("a vector of structs", x, 3, 1, 64, 1, 1);
        x.into(0);
        nodes("its struct", x, 2, 1, 68, 3, 2);
        x.up();
        x.up();
        x.into(3);
        nodes("a vector of texts", x, 3, 0, 72, 1, 1);
        x.into(0);
        nodes("its text", x, 4, 0, 100, 0, 2);
        x.up();
        x.up();
        x.into(4);
        nodes("a vector of tables", x, 3, 0, 80, 1, 1);
        x.into(0);
        nodes("its table", x, 1, 0, 96, 0, 2);
        x.up();
        x.up();
        x.into(5);
        nodes("a vector of floats", x, 3, 9, 88, 0, 1);
        x.up();
        x.into(6);
        nodes("a union's table", x, 1, 0, 96, 0, 1);
    }

    private static void nodeNone() {
        Check.sentence("Promise 21", "NONE for another what, or without a BUFFER.");
        Counted x = built();
        Check.same("node(5)", -1, () -> x.node(5));
        for (int far : FAR) {
            Check.same("node(" + far + ")", -1, () -> x.node(far));
        }
        x.into(1);
        Check.same("node(5) of a text", -1, () -> x.node(5));
        x.tape("table T{}root T;");
        x.schema();
        nodes("without", x, -1, -1, -1, -1, -1);
        nodes("a new object", new Counted(), -1, -1, -1, -1, -1);
    }

    // ---- has()

    private static void has() {
        Check.sentence("Promise 22", "Whether PART k of the NODE at hand is there (stored): 1, 0 (a FIELD that is not,"
            + " a UNION without a TABLE);");
        Counted x = built();
        for (int i = 0; i < 10; i++) {
            int k = i;
            Check.same("field " + k, k == 0 || k == 9 ? 0 : 1, () -> x.has(k));
        }
        x.into(3);
        for (int i = 0; i < 10; i++) {
            int k = i;
            Check.same("field " + k + " of k", k < 2 ? 1 : 0, () -> x.has(k));
        }
        x.into(1);
        Check.same("bytes of a text", "1 1", () -> x.has(0) + " " + x.has(2));
        x.up();
        x.up();
        x.into(2);
        Check.same("fields of a struct", "1 1", () -> x.has(0) + " " + x.has(1));
        x.up();
        x.into(7);
        Check.same("elements", "1 1", () -> x.has(0) + " " + x.has(2));
        x.up();
        x.into(8);
        Check.same("a default", 0, () -> x.has(0));
        Counted y = Counted.with("table T{u:U;a:int=4;}union U{T}root T;");
        Check.same("which is stored, and 0", true, () -> y.load(Raw.hex("0c000000 0600 0500 0400 0000 08000000 00")));
        Check.same("a union without a table", 0, () -> y.has(0));
        // A scalar that is stored, though it is the default.
        Check.same("a's default, stored", true, () -> y.load(Raw.hex("10000000 0a00 0800 0000 0000 0400 0000 0c000000"
            + " 04000000")));
        Check.same("it is there", "0 1 4", () -> y.has(0) + " " + y.has(1) + " " + y.read(1));
    }

    private static void noneOfThese(String what, Counted x, int parts) {
        Check.same(what + ": " + parts, -1, () -> x.has(parts));
        for (int far : FAR) {
            Check.same(what + ": " + far, -1, () -> x.has(far));
        }
    }

    private static void hasNone() {
        Check.sentence("Promise 22", "NONE if there is none such, or no BUFFER.");
        Counted x = built();
        noneOfThese("a table", x, 10);
        x.into(1);
        noneOfThese("a text", x, 3);
        x.up();
        x.into(2);
        noneOfThese("a struct", x, 2);
        x.up();
        x.into(7);
        noneOfThese("a vector", x, 3);
        x.up();
        x.into(5);
        x.into(0);
        noneOfThese("an empty text", x, 0);
        noneOfThese("no buffer", new Counted(), 0);
        noneOfThese("a schema, but no buffer", Counted.with("table T{a:int;}root T;"), 0);
    }

    // ---- read()

    private static void read() {
        Check.sentence("Promise 23", "The value of PART k: of a SCALAR (the DEFAULT, if it is not there),");
        Counted x = built();
        Check.same("the default", -3, () -> x.read(0));
        Check.same("0.0", 0, () -> x.read(9));
        x.into(3);
        Check.same("what is there", 70000, () -> x.read(0));
        x.up();
        x.into(2);
        Check.same("of a struct", 1, () -> x.read(0));
        x.into(1);
        Check.same("of a struct within", "5 -300", () -> x.read(0) + " " + x.read(1));
        x.up();
        x.up();
        x.into(7);
        Check.same("of a vector", "65535 0 9", () -> x.read(0) + " " + x.read(1) + " " + x.read(2));
        x.up();
        x.into(8);
        Check.same("a default of another table", 5, () -> x.read(0));
        x.up();
        Check.sentence("Promise 23", "of a byte of a TEXT,");
        x.into(1);
        Check.same("bytes", "104 101 121", () -> x.read(0) + " " + x.read(1) + " " + x.read(2));
        Counted z = Counted.with("table T{t:text;}root T;");
        z.readFrom(z.table(0, 0, z.text("\0\u007f\u0080\u00ff")));
        z.into(0);
        Check.same("without a sign", "0 127 128 255", () -> z.read(0) + " " + z.read(1) + " " + z.read(2) + " "
            + z.read(3));
        x.up();
        Check.sentence("Promise 23", "of a UNION WHICH (0 without).");
        Check.same("the first", 1, () -> x.read(8));
        x.into(3);
        Check.same("without", 0, () -> x.read(8));
        Counted y = Counted.with("table T{u:U;}union U{T}root T;");
        y.load(Raw.hex("0c000000 0600 0500 0400 0000 08000000 00"));
        Check.same("stored, and 0", 0, () -> y.read(0));
        Counted w = Counted.with(Raw.repeat(7, "table E#{}") + "table T{u:U;}union U{E0,E1,E2,E3,E4,E5,E6,T}root T;");
        w.readFrom(w.table(7, 0, 8, w.table(7)));
        Check.same("the eighth", 8, () -> w.read(0));
    }

    private static void readThrows() {
        Check.sentence("Promise 23", "NoSuchElementException: there is none such,");
        Counted x = built();
        Check.same("10 of a table", NSE, () -> x.read(10));
        for (int far : FAR) {
            Check.same("of a table " + far, NSE, () -> x.read(far));
        }
        x.into(1);
        Check.same("3 of a text", NSE, () -> x.read(3));
        for (int far : FAR) {
            Check.same("of a text " + far, NSE, () -> x.read(far));
        }
        x.up();
        x.into(2);
        Check.same("2 of a struct", NSE, () -> x.read(2));
        Check.same("-1 of a struct", NSE, () -> x.read(-1));
        x.up();
        x.into(7);
        Check.same("3 of a vector", NSE, () -> x.read(3));
        for (int far : FAR) {
            Check.same("of a vector " + far, NSE, () -> x.read(far));
        }
        // An int that is multiplied by two bytes wraps it round to 0.
        Check.same("2147483648 / 2 of a vector", NSE, () -> x.read(1073741824));
        x.up();
        Check.sentence("Promise 23", "it is none of these,");
        for (int i = 1; i <= 7; i++) {
            int k = i;
            Check.same("field " + k, NSE, () -> x.read(k));
        }
        x.into(3);
        for (int i = 2; i <= 7; i++) {
            int k = i;
            Check.same("field " + k + ", which is not there", NSE, () -> x.read(k));
        }
        x.up();
        x.into(2);
        Check.same("a struct in a struct", NSE, () -> x.read(1));
        x.up();
        x.into(4);
        Check.same("a struct in a vector", NSE, () -> x.read(0));
        x.up();
        x.into(5);
        Check.same("a text in a vector", NSE, () -> x.read(0));
        x.up();
        x.into(6);
        Check.same("a table in a vector", NSE, () -> x.read(0));
        Check.sentence("Promise 23", "or no BUFFER.");
        Check.same("a new object", NSE, () -> new Counted().read(0));
        Check.same("a schema", NSE, () -> Counted.with("table T{a:int;}root T;").read(0));
        x.tape("table T{a:int;}root T;");
        x.schema();
        Check.same("another schema", NSE, () -> x.read(0));
    }

    // ---- into(), up()

    private static void into() {
        Check.sentence("Promise 24", "The NODE at hand is PART k, a TEXT, STRUCT, TABLE, VECTOR, or a UNION's TABLE:"
            + " what node(0) tells then;");
        Counted x = built();
        int[] due = {-1, 4, 2, 1, 3, 3, 3, 3, 1, -1};
        for (int i = 0; i < due.length; i++) {
            int k = i;
            if (due[k] != -1) {
                Check.same("into(" + k + ")", due[k], () -> x.into(k));
                Check.same("node(0)", due[k], () -> x.node(0));
                Check.same("one above", 1, () -> x.node(4));
                x.up();
            }
        }
        int[][] elements = {{4, 2}, {5, 4}, {6, 1}};
        for (int[] row : elements) {
            x.into(row[0]);
            Check.same("the last element", row[1], () -> x.into(1));
            Check.same("two above", 2, () -> x.node(4));
            x.up();
            x.up();
        }
        x.into(8);
        Check.same("a union's table", 1, () -> x.node(1));
    }

    private static void intoNone() {
        Check.sentence("Promise 24", "NONE, and nothing happens, if it is not there, or none of these.");
        Counted x = built();
        int place = x.node(2);
        for (int k : new int[] {0, 9, 10, 11}) {
            Check.same("into(" + k + ")", -1, () -> x.into(k));
        }
        for (int far : FAR) {
            Check.same("into(" + far + ")", -1, () -> x.into(far));
        }
        nodes("nothing happened", x, 1, 0, place, 10, 0);
        x.into(3);
        for (int i = 2; i <= 9; i++) {
            int k = i;
            Check.same("not there: " + k, -1, () -> x.into(k));
        }
        Check.same("a scalar that is there", -1, () -> x.into(0));
        Check.same("nothing happened", "1 1", () -> x.node(0) + " " + x.node(4));
        x.up();
        x.into(1);
        Check.same("a byte of a text", -1, () -> x.into(0));
        Check.same("behind a text", -1, () -> x.into(3));
        x.up();
        x.into(2);
        Check.same("a scalar of a struct", -1, () -> x.into(0));
        Check.same("behind a struct", -1, () -> x.into(2));
        x.up();
        x.into(7);
        Check.same("a scalar of a vector", -1, () -> x.into(0));
        x.up();
        x.into(4);
        Check.same("behind a vector", -1, () -> x.into(2));
        Check.same("ahead of a vector", -1, () -> x.into(-1));
        Check.same("nothing happened", "3 1", () -> x.node(0) + " " + x.node(4));
        Check.same("no buffer", -1, () -> new Counted().into(0));
    }

    private static void up() {
        Check.sentence("Promise 25", "The NODE above is at hand again: what node(0) tells then;");
        Counted x = built();
        int root = x.node(2);
        x.into(6);
        int vector = x.node(2);
        x.into(1);
        int table = x.node(2);
        x.into(1);
        Check.same("a table", 1, x::up);
        nodes("it is at hand", x, 1, 0, table, 10, 2);
        Check.same("a vector", 3, x::up);
        nodes("it is at hand", x, 3, 0, vector, 2, 1);
        Check.same("the root", 1, x::up);
        nodes("it is at hand", x, 1, 0, root, 10, 0);
        x.into(2);
        x.into(1);
        Check.same("a struct", 2, x::up);
        Check.sentence("Promise 25", "NONE if there is none.");
        Check.same("the root", 1, x::up);
        Check.same("above the root", -1, x::up);
        Check.same("above the root", -1, x::up);
        nodes("the root stays", x, 1, 0, root, 10, 0);
        Check.same("no buffer", -1, () -> new Counted().up());
        x.into(1);
        x.tape("table T{}root T;");
        x.schema();
        Check.same("another schema", -1, x::up);
    }

    // ---- write()

    private static void write() {
        Check.sentence("Promise 26", "PART k, a SCALAR that is stored, becomes v where it stands: true, and the root"
            + " TABLE is at hand;");
        Counted x = built();
        int root = x.node(2);
        x.into(7);
        int place = x.node(2) + 4;
        Check.same("an element", true, () -> x.write(1, 0x1234));
        nodes("the root", x, 1, 0, root, 10, 0);
        Check.same("its bytes", "255 255 52 18 9 0", () -> x.byteAt(place) + " " + x.byteAt(place + 1) + " "
            + x.byteAt(place + 2)
            + " " + x.byteAt(place + 3) + " " + x.byteAt(place + 4) + " " + x.byteAt(place + 5));
        x.into(3);
        Check.same("a field, to its default", true, () -> x.write(0, -3));
        nodes("the root", x, 1, 0, root, 10, 0);
        x.into(3);
        Check.same("it is stored", "1 -3", () -> x.has(0) + " " + x.read(0));
        Check.same("what it is already", true, () -> x.write(0, -3));
        Check.same("the root", 0, () -> x.node(4));
        x.into(4);
        x.into(1);
        x.into(1);
        Check.same("in a struct in a struct in a vector", true, () -> x.write(1, -32768));
        Check.same("the root", 0, () -> x.node(4));
        x.into(4);
        x.into(1);
        x.into(1);
        Check.same("it is written", "7 -32768", () -> x.read(0) + " " + x.read(1));
        Check.same("nothing above is left", "2 3", () -> x.up() + " " + x.up());
        Check.same("a bool", true, () -> x.into(0) == 2 && x.write(0, 0));
        x.into(4);
        x.into(0);
        Check.same("it is written", 0, () -> x.read(0));
        Check.same("the bytes are as many", true, () -> x.count(6) == x.count(5));
        Check.same("come to stays", 5, () -> x.count(8));
        Check.same("the root at hand stays", true, () -> x.up() == 3 && x.up() == 1 && x.up() == -1);
    }

    private static void refused(String what, Counted x, int k, long v) {
        String before = x.node(0) + " " + x.node(2) + " " + x.node(4);
        Check.same("write(" + k + ", " + v + ") of " + what, false, () -> x.write(k, v));
        Check.same("nothing changes", before, () -> x.node(0) + " " + x.node(2) + " " + x.node(4));
    }

    private static void writeIsRefused() {
        Check.sentence("Promise 26", "false, and nothing changes, if there is none such,");
        Counted x = built();
        refused("a table", x, 10, 0);
        refused("a table", x, -1, 0);
        x.into(7);
        refused("a vector", x, 3, 0);
        refused("a vector", x, -1, 0);
        refused("a vector", x, Integer.MAX_VALUE, 0);
        refused("a vector", x, Integer.MIN_VALUE, 0);
        refused("a vector, wrapped round to 0", x, 1073741824, 0);
        x.up();
        for (int k = 1; k <= 8; k++) {
            refused("no scalar", x, k, 1);
        }
        x.into(1);
        refused("a byte of a text", x, 0, 65);
        refused("what is behind a text", x, 3, 0);
        x.up();
        x.into(2);
        refused("a struct in a struct", x, 1, 0);
        refused("a struct", x, 2, 0);
        Check.same("no buffer", false, () -> new Counted().write(0, 0));
        Check.sentence("Promise 26", "it is not stored,");
        Counted y = built();
        refused("the root", y, 0, 5);
        refused("the root, its default", y, 0, -3);
        refused("the root", y, 9, 0);
        y.into(8);
        refused("a union's table", y, 0, 5);
        Check.sentence("Promise 26", "v is NO VALUE,");
        Counted z = built();
        z.into(7);
        refused("ushorts", z, 1, 65536);
        refused("ushorts", z, 1, -1);
        refused("ushorts", z, 1, 4294967296L);
        refused("ushorts", z, 1, Long.MIN_VALUE);
        Check.same("as it was", 0, () -> z.read(1));
        z.up();
        z.into(2);
        refused("a bool", z, 0, 2);
        refused("a bool", z, 0, -1);
        refused("a bool", z, 0, 256);
        Check.same("as it was", 1, () -> z.read(0));
        z.up();
        z.into(3);
        refused("an int", z, 0, 2147483648L);
        refused("an int", z, 0, -2147483649L);
        Check.same("as it was", 70000, () -> z.read(0));
    }

    /** What was accepted may lie one over the other, so that a scalar is a part of all else, too. */
    private static void writeWouldNotBeAccepted() {
        Check.sentence("Promise 26", "or THE BUFFER would be none that is accepted then.");
        Counted x = Counted.with("table T{a:ushort;b:bool;}root T;");
        // The list at 8 lies in the table: a is how many bytes it has, b the second byte of where a is.
        byte[] bytes = Raw.hex("04000000 fcffffff 0800 0c00 0400 0900");
        Check.same("it is accepted", true, () -> x.load(bytes));
        refused("b, so that a were elsewhere", x, 1, 1);
        Check.same("as it was", 0, () -> x.byteAt(13));
        for (int v : new int[] {0, 1, 2, 3, 5, 7, 9, 10, 65535}) {
            refused("a, so that the list were wrong", x, 0, v);
            Check.same("as it was", "8 0", () -> x.byteAt(8) + " " + x.byteAt(9));
        }
        Check.same("no fault is told", "0 0", () -> x.fault(2) + " " + x.fault(3));
        Check.same("the list without b", true, () -> x.write(0, 6));
        Check.same("b is not there", "6 0", () -> x.read(0) + " " + x.has(1));
        Check.same("the list without a", true, () -> x.write(0, 4));
        Check.same("a is not there", 0, () -> x.has(0));
        refused("a, which is not stored any more", x, 0, 8);
        // A long that is the number of a vector's elements, too: all of its eight bytes come back.
        Counted y = Counted.with("table T{a:long;v:[bool];}root T;");
        // The list at 4, the table at 12: a at 16, v at 24, which leads to 28, and 4 bytes behind that.
        byte[] over = Raw.hex("0c000000 0800 1400 0400 0c00 08000000 0807060504030201 04000000 00000000");
        Check.same("it is accepted", true, () -> y.load(over));
        Check.same("a", true, () -> y.write(0, -1));
        // Now a lies over the reference and the vector's number.
        byte[] under = Raw.with(over, 8, 12);
        Check.same("it is accepted", true, () -> y.load(under));
        Check.same("a", 4, () -> y.read(0));
        refused("a, so that the reference were 0", y, 0, 0);
        refused("a, so that the reference led out", y, 0, 8);
        refused("a, so that it were not aligned", y, 0, 1);
        refused("a, so that the vector went beyond", y, 0, 0x100000004L);
        refused("a, all of whose bytes are others", y, 0, -1);
        Check.same("as it was", 4, () -> y.read(0));
        refused("a, so that it had a bool beyond", y, 0, 0x7fffffff00000004L);
        Check.same("what it was", true, () -> y.write(0, 4));
        elementsByWrite();
        manyByWrite();
        deepByWrite();
    }

    private static void elementsByWrite() {
        Counted x = Counted.with("table T{a:uint;v:[T];}root T;");
        // The list at 4; the table at 12: a at 16, v at 20, which leads to 24; there a vector of two, both of them at
        // 36
        // with a list at 40.
        byte[] two = Raw.hex("0c000000 0800 0c00 0400 0800 08000000 00000000 04000000 02000000 08000000 04000000"
            + " fcffffff 0400 0400");
        Check.same("it is accepted", true, () -> x.load(two));
        Check.same("three tables", 3, () -> x.count(8));
        // With a at 16 over nothing, any value goes.
        Check.same("a", true, () -> x.write(0, 4294967295L));
        // With a over the number of elements: 2 may become 1 or 0, but not 3, as the third is no reference.
        byte[] over = Raw.with(two, 6, 16, 8, 12);
        Check.same("it is accepted", true, () -> x.load(over));
        Check.same("a", 2, () -> x.read(0));
        refused("a, so that a third led out", x, 0, 3);
        Check.same("as it was", 2, () -> x.read(0));
        Check.same("one", true, () -> x.write(0, 1));
        Check.same("come to by load() stays", 3, () -> x.count(8));
        Check.same("none", true, () -> x.write(0, 0));
        Check.same("two again", true, () -> x.write(0, 2));
    }

    /** The scalar a is the number of a vector's elements, too: with 200 of them there were 201 tables. */
    private static void manyByWrite() {
        Counted x = Counted.with("table T{a:uint;v:[E];}table E{}root T;");
        byte[] bytes = Raw.sized(Raw.hex("10000000 0800 0c00 0800 0400 0400 0400 0c000000 04000000"), 28 + 4 * 200 + 4);
        Raw.put4(bytes, 24, 199);
        for (int i = 0; i < 200; i++) {
            Raw.put4(bytes, 28 + 4 * i, 4 * (200 - i));
        }
        Raw.put4(bytes, 28 + 4 * 200, 28 + 4 * 200 - 12);
        Check.same("it is accepted", true, () -> x.load(bytes));
        Check.same("200 tables", 200, () -> x.count(8));
        refused("a, so that there were 201", x, 0, 200);
        Check.same("as it was", 199, () -> x.read(0));
        Check.same("199 tables", true, () -> x.write(0, 198));
        Check.same("200 tables again", true, () -> x.write(0, 199));
    }

    /** The root's a is the number of elements in the 16th table within one another, too. */
    private static void deepByWrite() {
        Counted x = Counted.with("table T{a:uint;v:[T];}root T;");
        byte[] bytes = Raw.sized(Raw.hex("18000000 0800 fc00 f800 0400 0800 0800 0000 0400 0400 0400"), 24 + 16 * 16
            + 4);
        for (int i = 0; i < 16; i++) {
            int p = 24 + 16 * i;
            Raw.put4(bytes, p, i == 0 ? p - 4 : p - 12);
            Raw.put4(bytes, p + 4, 4);
            Raw.put4(bytes, p + 8, i == 15 ? 0 : 1);
            Raw.put4(bytes, p + 12, 4);
        }
        Raw.put4(bytes, 24 + 16 * 16, 24 + 16 * 16 - 20);
        Check.same("it is accepted", true, () -> x.load(bytes));
        Check.same("16 tables", 16, () -> x.count(8));
        Check.same("a", 0, () -> x.read(0));
        refused("a, so that there were a 17th", x, 0, 1);
        Check.same("as it was", 0, () -> x.read(0));
        Check.same("what it was", true, () -> x.write(0, 0));
    }

    private static void byteAt() {
        Check.sentence("Promise 27", "Byte i of THE BUFFER;");
        Counted x = Counted.with("table T{}root T;");
        x.load(Raw.hex("08000000 0400 0400 04000000 7f80ff"));
        int[] due = {8, 0, 0, 0, 4, 0, 4, 0, 4, 0, 0, 0, 127, 128, 255};
        for (int i = 0; i < due.length; i++) {
            int k = i;
            Check.same("byteAt(" + k + ")", due[k], () -> x.byteAt(k));
        }
        Check.sentence("Promise 27", "NONE.");
        Check.same("byteAt(15)", -1, () -> x.byteAt(15));
        for (int far : FAR) {
            Check.same("byteAt(" + far + ")", -1, () -> x.byteAt(far));
        }
        Check.same("no buffer", -1, () -> new Counted().byteAt(0));
        x.load(Raw.with(Raw.sized(EMPTY, 4000), 3999, 9));
        Check.same("byteAt(3999)", 9, () -> x.byteAt(3999));
        Check.same("byteAt(4000)", -1, () -> x.byteAt(4000));
        x.tape("table T{}root T;");
        x.schema();
        Check.same("another schema", -1, () -> x.byteAt(0));
    }
}
