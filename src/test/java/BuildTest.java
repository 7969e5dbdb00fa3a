/** Promises 10 to 19: push, text, vector, begin, set, ready, finish, clear, out, count. */
public final class BuildTest {
    private static final String ISE = "IllegalStateException";
    private static final String IAE = "IllegalArgumentException";
    private static final String UOE = "UnsupportedOperationException";
    private static final String NSE = "NoSuchElementException";

    public static void main(String[] args) {
        pushing();
        bytesOfTables();
        bytesOfTextsAndVectors();
        bytesOfStructsAndUnions();
        equalLists();
        alignmentOfTheRoot();
        textsThatFail();
        vectorsThatFail();
        valuesOfScalars();
        beginningAndSetting();
        unionsThatFail();
        gettingReady();
        threeHundredThings();
        fullRows();
        finishing();
        clearing();
        Check.end();
    }

    private static void begin(Counted x, int n) {
        x.begin(n);
    }

    private static Object begun(Counted x, int n) {
        x.begin(n);
        return "begun";
    }

    private static void out(String what, Counted x, int thing, String hex) {
        String due = hex.replace(" ", "");
        Check.same(what + ": finish", due.length() / 2, () -> x.finish(thing));
        Check.same(what, due, () -> x.outHex());
        Check.same(what + ": accepted", true, () -> x.load(1));
    }

    private static void pushing() {
        Counted x = new Counted();
        for (int i = 1; i <= 500; i++) {
            int due = i;
            Check.same("push", due, () -> x.push(due));
        }
        Check.same("count", 500, () -> x.count(1));
    }

    private static void bytesOfTables() {
        Counted x = Counted.with("table T{a:int;b:byte=3;c:short;}root T;");
        begin(x, 0);
        Check.same("ready with none set", 0, x::ready);
        out("an empty table", x, 0, "08000000 0400 0400 04000000");
        begin(x, 0);
        Check.same("set a", true, () -> x.set(0, 5));
        Check.same("ready", 0, x::ready);
        out("one int", x, 0, "0c000000 0000 0600 0800 0400 06000000 05000000");
        begin(x, 0);
        Check.same("set c", true, () -> x.set(2, -2));
        Check.same("set b to its default", false, () -> x.set(1, 3));
        Check.same("set a to its default", false, () -> x.set(0, 0));
        Check.same("ready", 0, x::ready);
        out("a list with holes", x, 0, "10000000 0000 0a00 0800 0000 0000 0600 0a000000 0000 feff");
        begin(x, 0);
        x.set(1, -3);
        x.set(0, 0x01020304);
        x.ready();
        out("what is set first stands last", x, 0,
            "0c000000 0800 0c00 0400 0b00 08000000 04030201 000000fd");
    }

    private static void bytesOfTextsAndVectors() {
        Counted x = Counted.with("table T{t:text;v:[short];w:[text];k:[T];}root T;");
        Check.same("text", 0, () -> x.text("abc"));
        Check.same("row", 8, () -> x.count(2));
        Check.same("empty text", 1, () -> x.text(""));
        Check.same("row", 16, () -> x.count(2));
        Check.same("vector of shorts", 2, () -> x.vector(0, 3, 1, -1, 2));
        Check.same("row", 28, () -> x.count(2));
        Check.same("vector of texts", 3, () -> x.vector(1, 77, 1, 0, 0));
        Check.same("row", 44, () -> x.count(2));
        Check.same("things", 4, () -> x.count(3));
        begin(x, 0);
        x.set(0, 0);
        x.set(1, 2);
        x.set(2, 3);
        Check.same("table", 4, x::ready);
        out("texts and vectors", x, 4, "10000000 0000 0a00 1000 0c00 0800 0400 0a000000"
            + "0c000000 18000000 28000000"
            + "03000000 18000000 1c000000 18000000"
            + "03000000 0100 ffff 0200 0000"
            + "00000000 00000000"
            + "03000000 61626300");
        Check.same("into w", 3, () -> x.into(2));
        Check.same("into its last", 4, () -> x.into(2));
        Check.same("its c", 'c' + 0, () -> x.read(2));
    }

    private static void bytesOfStructsAndUnions() {
        Counted x = Counted.with("struct P{a:byte;b:short;}struct Q{p:P;c:long;d:bool;}table T{q:Q;u:U;v:[P];}"
            + "table E{}union U{E,T}root T;");
        begin(x, 1);
        Check.same("E", 0, x::ready);
        Check.same("vector of structs", 1, () -> x.vector(2, 0, 1, 2, 3, 4));
        begin(x, 0);
        Check.same("set q", true, () -> x.set(0, -1, 258, 0x0102030405060708L, 1));
        Check.same("set u", true, () -> x.set(1, 1, 0));
        Check.same("set v", true, () -> x.set(2, 1));
        Check.same("T", 2, x::ready);
        // From its end: E with its list, the vector, 4 bytes 0 and q, u (its which ahead), 3 bytes 0 and v.
        out("structs and unions", x, 2, "10000000"
            + "0c00 2c00 1000 0b00 0c00 0400 0c000000"
            + "28000000 000000 01 30000000"
            + "ff000201 00000000 0807060504030201 01000000 00000000 00000000"
            + "02000000 01000200 03000400"
            + "0400 0400 04000000");
        Check.same("which", 1, () -> x.read(1));
        Check.same("into q", 2, () -> x.into(0));
        Check.same("c", 0x0102030405060708L, () -> x.read(1));
    }

    private static void equalLists() {
        Counted x = Counted.with("table T{a:int;b:int;k:[T];}table U{c:int;d:short;}root T;");
        // Behind a list of 6 bytes two bytes 0 come since begin(), so that t is 10 but for the first.
        for (int i = 0; i < 4; i++) {
            begin(x, 0);
            x.set(0, 10 + i);
            x.ready();
        }
        Check.same("two lists for four tables", 2, () -> x.count(7));
        Check.same("row", 8 + 6 + 10 + 6 + 10 + 8, () -> x.count(2));
        begin(x, 1);
        x.set(0, 4);
        x.ready();
        Check.same("equal bytes, though of another table", 2, () -> x.count(7));
        begin(x, 0);
        x.set(1, 4);
        x.ready();
        Check.same("another list", 3, () -> x.count(7));
        begin(x, 1);
        x.set(1, 4);
        x.ready();
        Check.same("equal slots, but another number of bytes", 4, () -> x.count(7));
        Check.same("row", 48 + 8 + 8 + 8 + 8 + 8, () -> x.count(2));
        begin(x, 0);
        x.ready();
        Check.same("an empty list", 5, () -> x.count(7));
        begin(x, 1);
        x.ready();
        Check.same("the empty list again", 5, () -> x.count(7));
        Check.same("vector", 9, () -> x.vector(3, 0, 0, 1, 2, 5, 7));
        begin(x, 0);
        x.set(2, 9);
        int root = x.ready();
        Check.same("lists", 6, () -> x.count(7));
        Check.same("finish", true, () -> x.finish(root) > 0);
        Check.same("lists of a new row", 0, () -> x.count(7));
        Check.same("load", true, () -> x.load(1));
        x.into(2);
        x.into(2);
        Check.same("a of the third", 12, () -> x.read(0));
        begin(x, 0);
        x.set(0, 1);
        x.ready();
        Check.same("a list of an older row is none of this one", 1, () -> x.count(7));
        x.clear();
        Check.same("no lists", 0, () -> x.count(7));
    }

    private static void alignmentOfTheRoot() {
        Counted x = Counted.with("struct D{a:long;}table T{a:long;v:[double];w:[D];s:D;b:byte;}root T;");
        x.vector(0, 10);
        begin(x, 0);
        x.ready();
        Check.same("an empty vector asks for its alignment", 16, () -> x.finish(1));
        begin(x, 0);
        x.ready();
        Check.same("a new row has not been asked", 12, () -> x.finish(0));
        begin(x, 0);
        Check.same("a default is not put", false, () -> x.set(0, 0));
        x.ready();
        Check.same("nor does it ask", 12, () -> x.finish(0));
        begin(x, 0);
        x.set(0, 1);
        Check.same("row", 8, () -> x.count(2));
        x.ready();
        Check.same("row", 18, () -> x.count(2));
        Check.same("a long asks", 24, () -> x.finish(0));
        begin(x, 0);
        x.set(4, 1);
        x.set(3, 1);
        Check.same("row", 16, () -> x.count(2));
        x.ready();
        Check.same("row", 34, () -> x.count(2));
        Check.same("a struct asks", 40, () -> x.finish(0));
        Check.same("load", true, () -> x.load(1));
        x.vector(2, 0);
        x.clear();
        begin(x, 0);
        x.ready();
        Check.same("clear() forgets what was asked", 12, () -> x.finish(0));
    }

    private static void textsThatFail() {
        Counted x = Counted.with("table T{t:text;}root T;");
        begin(x, 0);
        x.tape("abc");
        Check.same("text while a table is open", ISE, x::text);
        Check.same("the tape is empty then", 0, () -> x.count(0));
        Check.same("no things", 0, () -> x.count(3));
        x.clear();
        x.tape(new byte[3996]);
        Check.same("3996 bytes and five", UOE, x::text);
        Check.same("the tape is empty then", 0, () -> x.count(0));
        Check.same("the row is empty", 0, () -> x.count(2));
        x.tape(new byte[3995]);
        Check.same("3995 bytes and five", 0, x::text);
        Check.same("row", 4000, () -> x.count(2));
    }

    private static void vectorsThatFail() {
        Counted x = Counted.with("struct P{a:byte;b:bool;}table T{t:text;}table U{}root T;");
        x.text("x");
        begin(x, 0);
        x.ready();
        begin(x, 1);
        x.ready();
        x.vector(0, 0, 1, 0);
        Object[][] rows = {{-1, 0}, {4, 0}, {5, 0}, {0, 11}, {0, -1}, {2, 1}, {2, -1}, {3, 2}, {3, -1}};
        for (Object[] row : rows) {
            Check.same("vector(" + row[0] + ", " + row[1] + ")", IAE, () -> x.vector((int) row[0], (int) row[1]));
        }
        Check.same("no value", IAE, () -> x.vector(0, 0, 1, 0, 2));
        Check.same("no values left", 0, () -> x.count(1));
        Check.same("half a struct", IAE, () -> x.vector(2, 0, 1, 1, 1));
        Check.same("a struct with no value", IAE, () -> x.vector(2, 0, 1, 1, 1, 2));
        Check.same("of texts a table", IAE, () -> x.vector(1, 0, 0, 1));
        Check.same("of texts none", IAE, () -> x.vector(1, 0, 4));
        Check.same("of texts below 0", IAE, () -> x.vector(1, 0, -1));
        Check.same("of texts far above", IAE, () -> x.vector(1, 0, 4294967296L));
        Check.same("of tables a text", IAE, () -> x.vector(3, 0, 0));
        Check.same("of tables another one", IAE, () -> x.vector(3, 0, 2));
        Check.same("of tables a vector", IAE, () -> x.vector(3, 0, 3));
        Check.same("things", 4, () -> x.count(3));
        Check.same("of tables", 4, () -> x.vector(3, 1, 2, 2));
        Check.same("an empty one of texts", 5, () -> x.vector(1, -9));
        begin(x, 0);
        Check.same("while one is open", ISE, () -> x.vector(9, 0, 1));
        Check.same("no values left", 0, () -> x.count(1));
    }

    private static void valuesOfScalars() {
        long[][] edges = {{0, 1}, {-128, 127}, {0, 255}, {-32768, 32767}, {0, 65535},
            {Integer.MIN_VALUE, Integer.MAX_VALUE}, {0, 4294967295L}, {Long.MIN_VALUE, Long.MAX_VALUE},
            {Long.MIN_VALUE, Long.MAX_VALUE}, {Integer.MIN_VALUE, Integer.MAX_VALUE},
            {Long.MIN_VALUE, Long.MAX_VALUE}};
        for (int i = 0; i < edges.length; i++) {
            int scalar = i;
            long[] edge = edges[i];
            Counted x = Counted.with("table T{v:[" + PlainModel.SCALARS.get(i) + "];}root T;");
            Check.same("edges of " + scalar, 0, () -> x.vector(0, scalar, edge[0], edge[1], 0, 1));
            if (edge[0] != Long.MIN_VALUE) {
                Check.same("below " + scalar, IAE, () -> x.vector(0, scalar, edge[0] - 1));
                Check.same("above " + scalar, IAE, () -> x.vector(0, scalar, edge[1] + 1));
            }
            begin(x, 0);
            x.set(0, 0);
            x.finish(x.ready());
            x.load(1);
            x.into(0);
            Check.same("lowest of " + scalar, edge[0], () -> x.read(0));
            Check.same("highest of " + scalar, edge[1], () -> x.read(1));
            Check.same("write above " + scalar, edge[1] == Long.MAX_VALUE, () -> x.write(0, edge[1] + 1));
        }
    }

    private static void beginningAndSetting() {
        Counted x = Counted.with("struct P{a:byte;b:bool;}table T{a:int=7;t:text;p:P;k:T;v:[int];w:[text];"
            + "f:float;}table U{}root T;");
        Check.same("set with none open", ISE, () -> x.set(0, 1));
        Check.same("no values left", 0, () -> x.count(1));
        Check.same("begin(-1)", NSE, () -> begun(x, -1));
        Check.same("begin(2)", NSE, () -> begun(x, 2));
        x.text("x");
        begin(x, 1);
        x.ready();
        x.vector(0, 5, 3);
        x.vector(0, 6, 3);
        x.vector(1, 9, 0);
        Check.same("begin(0)", "begun", () -> begun(x, 0));
        Check.same("open", 0, () -> x.count(4));
        Check.same("begin(0) again", ISE, () -> begun(x, 0));
        Check.same("begin(9) while open", ISE, () -> begun(x, 9));
        Check.same("set(-1)", NSE, () -> x.set(-1, 1));
        Check.same("set(7)", NSE, () -> x.set(7, 1));
        Check.same("no values left", 0, () -> x.count(1));
        Object[][] wrong = {{0}, {0, 1L, 2L}, {0, 2147483648L}, {1}, {1, 1L}, {1, -1L}, {1, 99L}, {1, 0L, 0L},
            {2, 1L}, {2, 1L, 2L}, {2, 128L, 1L}, {2, 1L, 1L, 1L}, {3, 0L}, {3, 1L}, {4, 3L}, {4, 4L}, {4, 0L},
            {5, 2L}, {5, 0L}, {6, 2147483648L}};
        for (Object[] row : wrong) {
            long[] values = new long[row.length - 1];
            for (int i = 1; i < row.length; i++) {
                values[i - 1] = (Long) row[i];
            }
            Check.same("set(" + row[0] + ") by " + values.length, IAE, () -> x.set((Integer) row[0], values));
            Check.same("no values left", 0, () -> x.count(1));
        }
        int had = x.count(2);
        Check.same("the default", false, () -> x.set(0, 7));
        Check.same("nothing was put", had, () -> x.count(2));
        Check.same("set already", IAE, () -> x.set(0, 8));
        Check.same("t", true, () -> x.set(1, 0));
        Check.same("t again", IAE, () -> x.set(1, 0));
        Check.same("p", true, () -> x.set(2, -128, 1));
        Check.same("v", true, () -> x.set(4, 2));
        Check.same("w", true, () -> x.set(5, 4));
        Check.same("-0.0 is not the default", true, () -> x.set(6, Integer.MIN_VALUE));
        Check.same("ready", 5, x::ready);
        Check.same("none open", -1, () -> x.count(4));
        begin(x, 0);
        Check.same("k", true, () -> x.set(3, 5));
        Check.same("0.0 is the default", false, () -> x.set(6, 0));
        Check.same("nothing of the former table is set", true, () -> x.set(1, 0));
        Check.same("ready", 6, x::ready);
        Check.same("finish", true, () -> x.finish(6) > 0);
        Check.same("load", true, () -> x.load(1));
        x.into(3);
        Check.same("-0.0", Integer.MIN_VALUE, () -> x.read(6));
    }

    private static void unionsThatFail() {
        Counted x = Counted.with("table T{u:U(required);}table A{}table B{}union U{A,B}root T;");
        begin(x, 1);
        x.ready();
        begin(x, 2);
        x.ready();
        x.text("");
        begin(x, 0);
        long[][] wrong = {{}, {1}, {1, 0, 0}, {0, 0}, {-1, 0}, {3, 0}, {1, 1}, {2, 0}, {1, 2}, {1, 3}, {1, -1},
            {4294967297L, 0}};
        for (long[] values : wrong) {
            Check.same("union by " + java.util.Arrays.toString(values), IAE, () -> x.set(0, values));
        }
        Check.same("required", ISE, x::ready);
        Check.same("union", true, () -> x.set(0, 2, 1));
        Check.same("again", IAE, () -> x.set(0, 2, 1));
        Check.same("ready", 3, x::ready);
        // The list of A is B's too, and stands behind it.
        out("a union", x, 3, "0c000000 0800 0c00 0700 0800 08000000 000000 02 0c000000"
            + "00000000 00000000 fcffffff 0400 0400 04000000");
    }

    private static void gettingReady() {
        Counted x = Counted.with("table T{a:int;t:text(required);v:[int](required);}root T;");
        Check.same("none is open", ISE, x::ready);
        x.text("x");
        x.vector(0, 5);
        begin(x, 0);
        Check.same("required", ISE, x::ready);
        x.set(1, 0);
        Check.same("one of two", ISE, x::ready);
        Check.same("still open", 0, () -> x.count(4));
        x.set(2, 1);
        Check.same("both", 2, x::ready);
        Check.same("things", 3, () -> x.count(3));
        Check.same("none is open", ISE, x::ready);
    }

    private static void threeHundredThings() {
        Counted x = Counted.with("table T{}root T;");
        for (int i = 0; i < 299; i++) {
            x.text();
        }
        begin(x, 0);
        Check.same("the 300th", 299, x::ready);
        Check.same("the 301st, a text", UOE, () -> x.text("abc"));
        Check.same("the tape is empty", 0, () -> x.count(0));
        Check.same("the 301st, a vector", UOE, () -> x.vector(0, 5, 1));
        Check.same("no values left", 0, () -> x.count(1));
        Check.same("no such vector", IAE, () -> x.vector(0, 0, 2));
        begin(x, 0);
        Check.same("the 301st, a table", UOE, x::ready);
        Check.same("it stays open", 0, () -> x.count(4));
        Check.same("things", 300, () -> x.count(3));
        Check.same("row", 299 * 8 + 8, () -> x.count(2));
        Check.same("clear", 299 * 8 + 8, x::clear);
        Check.same("things", 0, () -> x.count(3));
    }

    /** The row has this many bytes, a number divisible by 4, of texts. */
    private static void fill(Counted x, int bytes) {
        x.tape(new byte[bytes - 5]);
        x.text();
        Check.same("filled", bytes, () -> x.count(2));
    }

    private static void fullRows() {
        Counted x = Counted.with("struct P{a:long;b:bool;}table T{a:int;p:P;u:U;b:byte;l:long;s:short;t:text;}"
            + "union U{T}root T;");
        fill(x, 3980);
        Check.same("eleven bytes of a text, and five", 1, () -> x.text("12345678901"));
        Check.same("row", 3996, () -> x.count(2));
        Check.same("no room for a text", UOE, () -> x.text(""));
        Check.same("no room for a vector", UOE, () -> x.vector(0, 2, 1));
        Check.same("room for an empty vector", 2, () -> x.vector(0, 5));
        Check.same("row", 4000, () -> x.count(2));
        Check.same("no room for an empty vector", UOE, () -> x.vector(0, 5));
        begin(x, 0);
        Check.same("no room for a byte", UOE, () -> x.set(3, 1));
        Check.same("a default needs none", false, () -> x.set(3, 0));
        Check.same("no room for a table", UOE, x::ready);
        Check.same("it stays open", 0, () -> x.count(4));
        Check.same("row", 4000, () -> x.count(2));
        x.clear();

        fill(x, 3972);
        begin(x, 0);
        x.set(6, 0);
        Check.same("a table", 1, x::ready);
        Check.same("row", 3972 + 8 + 20, () -> x.count(2));
        Check.same("no room for the root", UOE, () -> x.finish(1));
        Check.same("all stays", 4000, () -> x.count(2));
        Check.same("things stay", 2, () -> x.count(3));
        Check.same("no out", 0, () -> x.count(5));
        x.clear();

        Counted y = Counted.with("struct P{a:long;b:bool;}table T{a:int;p:P;u:U;b:byte;l:long;s:short;t:text;}"
            + "union U{T}root T;");
        begin(y, 0);
        y.ready();
        fillMore(y, 3992);
        begin(y, 0);
        Check.same("which has no room", true, () -> y.set(0, 1));
        Check.same("row", 3996, () -> y.count(2));
        Check.same("a union has none", UOE, () -> y.set(2, 1, 0));
        Check.same("a struct has none", UOE, () -> y.set(1, 1, 1));
        Check.same("a long has none", UOE, () -> y.set(4, 1));
        Check.same("row", 3996, () -> y.count(2));
        Check.same("a byte has room", true, () -> y.set(3, 1));
        Check.same("row", 3997, () -> y.count(2));
        Check.same("a short has room", true, () -> y.set(5, 1));
        Check.same("row", 4000, () -> y.count(2));
        Check.same("set already comes first", IAE, () -> y.set(0, 1));
        Check.same("wrong values come first", IAE, () -> y.set(2, 1, 1));
        Check.same("no room", UOE, () -> y.set(2, 1, 0));
        Check.same("no room", UOE, y::ready);
    }

    private static void fillMore(Counted x, int bytes) {
        x.tape(new byte[bytes - x.count(2) - 5]);
        x.text();
        Check.same("filled", bytes, () -> x.count(2));
    }

    private static void finishing() {
        Counted x = Counted.with("table A{}table B{}root B;");
        Check.same("no thing", IAE, () -> x.finish(0));
        x.text("");
        begin(x, 0);
        Check.same("open", ISE, () -> x.finish(0));
        x.ready();
        begin(x, 1);
        x.ready();
        Check.same("a text", IAE, () -> x.finish(0));
        Check.same("another table", IAE, () -> x.finish(1));
        Check.same("none", IAE, () -> x.finish(3));
        Check.same("below 0", IAE, () -> x.finish(-1));
        Check.same("row stays", 20, () -> x.count(2));
        Check.same("finish", 24, () -> x.finish(2));
        Check.same("row", 0, () -> x.count(2));
        Check.same("things", 0, () -> x.count(3));
        Check.same("out", 24, () -> x.count(5));
        Check.same("out(0)", 4, () -> x.out(0));
        Check.same("out(23)", 0, () -> x.out(23));
        Check.same("out(24)", -1, () -> x.out(24));
        Check.same("out(-1)", -1, () -> x.out(-1));
        Check.same("its things are gone", IAE, () -> x.finish(2));
        x.text("abcdefgh");
        x.clear();
        Check.same("clear() leaves the out", 24, () -> x.count(5));
        begin(x, 1);
        x.ready();
        Check.same("another out", 12, () -> x.finish(0));
        Check.same("out(12)", -1, () -> x.out(12));
    }

    private static void clearing() {
        Counted x = Counted.with("table T{a:int;}root T;");
        x.text("abc");
        begin(x, 0);
        x.set(0, 1);
        x.push(5);
        x.tape("xy");
        Check.same("clear", 12, x::clear);
        int[] counts = {2, 1, 0, 0, -1, 0, 0, 0, 0};
        for (int i = 0; i < counts.length; i++) {
            int what = i;
            Check.same("count(" + what + ")", counts[i], () -> x.count(what));
        }
        Check.same("clear", 0, x::clear);
        Check.same("things begin at 0 again", 0, x::text);
    }
}
