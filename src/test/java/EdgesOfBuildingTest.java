/** "Terms" 4, sentence by sentence: building; and what stands behind the terms, of all calls that throw. */
public final class EdgesOfBuildingTest {
    private static final String BUILDING = "Terms 4";
    private static final String ALL_CALLS = "Behind the terms";
    private static final String ISE = "IllegalStateException";
    private static final String IAE = "IllegalArgumentException";
    private static final String UOE = "UnsupportedOperationException";
    private static final String NSE = "NoSuchElementException";

    public static void main(String[] args) {
        all();
        Check.end();
    }

    static void all() {
        theRow();
        theRowIsFull();
        aheadOfWhatIsThere();
        aligned();
        numbersOfThings();
        threeHundredThings();
        references();
        sixHundredValues();
        valuesAreEmptied();
        texts();
        vectors();
        putAtOnce();
        defaultsAndUnions();
        ready();
        lists();
        equalLists();
        finish();
        emptyThen();
        firstExceptions();
        nothingChanges();
        ownMemory();
        constants();
    }

    // ---- the row

    private static void theRow() {
        Check.sentence(BUILDING, "There is a ROW of bytes, empty at first,");
        Counted x = new Counted();
        Check.same("bytes", 0, () -> x.count(2));
        Check.same("clear", 0, x::clear);
    }

    private static void theRowIsFull() {
        Check.sentence(BUILDING, "of at most 4000;");
        Counted x = Counted.with("table T{a:byte;b:short;c:int;d:long;u:U;}union U{T}root T;");
        x.table(0);
        x.fillRow(3996);
        x.begin(0);
        Check.same("a long goes beyond", UOE, () -> x.set(3, 1));
        Check.same("a union goes beyond", UOE, () -> x.set(4, 1, 0));
        Check.same("a byte", true, () -> x.set(0, 1));
        Check.same("row", 3997, () -> x.count(2));
        Check.same("an int, with bytes 0 ahead, goes beyond", UOE, () -> x.set(2, 1));
        Check.same("a short, with a byte 0 ahead", true, () -> x.set(1, 1));
        Check.same("the row is full", 4000, () -> x.count(2));
        Check.same("a table goes beyond", UOE, x::ready);
        Counted y = Counted.with("table T{a:byte;b:short;c:int;d:long;u:U;}union U{T}root T;");
        y.table(0);
        y.fillRow(3988);
        y.begin(0);
        Check.same("a byte", true, () -> y.set(0, 1));
        Check.same("a union, with bytes 0 ahead", true, () -> y.set(4, 1, 0));
        Check.same("row", 3997, () -> y.count(2));
        y.clear();
        y.table(0);
        y.fillRow(3992);
        y.begin(0);
        Check.same("a long", true, () -> y.set(3, 1));
        Check.same("the row is full", 4000, () -> y.count(2));
        Check.same("a byte goes beyond", UOE, () -> y.set(0, 1));
    }

    private static void aheadOfWhatIsThere() {
        Check.sentence(BUILDING, "all comes AHEAD of what is there.");
        Counted x = Counted.with("table T{a:text;b:text;}root T;");
        x.text("ab");
        x.text("cd");
        x.begin(0);
        x.set(0, 0);
        x.set(1, 1);
        x.finish(x.ready());
        Check.same("the first is the last", "0c000000" + "08000c0008000400" + "08000000" + "08000000" + "0c000000"
            + "0200000063640000" + "0200000061620000", x::outHex);
    }

    private static void aligned() {
        Check.sentence(BUILDING, "To put k bytes ALIGNED a: bytes 0 come ahead, as few as make what is there, and k,"
            + " together divisible by a; then the k bytes.");
        Counted x = Counted.with("struct P{a:byte;b:byte;c:byte;}struct Q{a:byte;b:short;}struct R{a:long;b:byte;}"
            + "table T{a:byte;b:short;c:byte;d:int;e:int;f:byte;g:long;p:P;q:Q;h:byte;r:R;}root T;");
        // The row's memory has had other bytes before.
        x.textOf(180);
        x.clear();
        x.begin(0);
        int[] rows = {1, 4, 5, 12, 16, 17, 32, 35, 40, 41, 64};
        long[][] values = {{-1}, {-1}, {-1}, {-1}, {-1}, {-1}, {-1}, {-1, -1, -1}, {-1, -1}, {-1}, {-1, -1}};
        for (int i = 0; i < rows.length; i++) {
            int f = i;
            Check.same("set " + f, true, () -> x.set(f, values[f]));
            Check.same("row behind " + f, rows[f], () -> x.count(2));
        }
        x.finish(x.ready());
        Check.same("the bytes", true, () -> x.outHex().endsWith("ffffffffffffffffff00000000000000" + "000000000000"
            + "00ff"
            + "ff00ffff" + "00" + "ffffff" + "ffffffffffffffff" + "00000000000000ff" + "ffffffff" + "ffffffff"
            + "000000ff" + "ffff00ff"));
    }

    // ---- things

    private static void numbersOfThings() {
        Check.sentence(BUILDING, "THINGS that were built have numbers from 0 on,");
        Counted x = Counted.with("table T{}root T;");
        Check.same("none", 0, () -> x.count(3));
        Check.same("a text", 0, () -> x.text("a"));
        Check.same("a vector", 1, () -> x.vector(0, 5, 1));
        Check.same("a table", 2, () -> x.table(0));
        Check.same("three", 3, () -> x.count(3));
        Check.same("what is refused has none", IAE, () -> x.vector(0, 0, 2));
        Check.same("a text", 3, () -> x.text("a"));
        x.clear();
        Check.same("from 0 on again", 0, () -> x.table(0));
    }

    private static void threeHundredThings() {
        Check.sentence(BUILDING, "at most 300: TEXTS, VECTORS, TABLES.");
        Counted x = Counted.with("table T{a:int;}root T;");
        for (int i = 0; i < 297; i++) {
            x.vector(0, 0);
        }
        Check.same("a text", 297, () -> x.text("a"));
        Check.same("a table", 298, () -> x.table(0));
        Check.same("a vector", 299, () -> x.vector(0, 5, 1));
        int row = 297 * 4 + 8 + 8 + 8;
        Check.same("row", row, () -> x.count(2));
        Check.same("a text more", UOE, () -> x.text("a"));
        Check.same("a vector more", UOE, () -> x.vector(0, 5, 1));
        x.begin(0);
        Check.same("a field is no thing", true, () -> x.set(0, 1));
        Check.same("a table more", UOE, x::ready);
        Check.same("it stays open", 0, () -> x.count(4));
        Check.same("300", 300, () -> x.count(3));
        Check.same("row", row + 4, () -> x.count(2));
        Counted y = Counted.with("table T{}root T;");
        for (int i = 0; i < 299; i++) {
            y.vector(0, 0);
        }
        Check.same("the last, a table", 299, () -> y.table(0));
        Check.same("it is the root", true, () -> y.readFrom(299));
        Check.same("none then", 0, () -> y.count(3));
        Check.same("so there is room again", 0, () -> y.text("a"));
    }

    private static void references() {
        Check.sentence(BUILDING, "A REFERENCE to one is how many bytes there are from its own first byte on, less how"
            + " many there are from that thing's first byte on.");
        Counted x = Counted.with("table T{t:text;k:T;v:[T];w:[text];}root T;");
        x.text("abc");
        x.table(0, 0, 0);
        x.vector(3, 0, 1, 1);
        x.vector(1, 0, 0);
        // A text (8 bytes), a table with a list of 6 bytes (22), a vector (36), a vector (44), then what is set.
        Check.same("row", 44, () -> x.count(2));
        x.begin(0);
        x.set(0, 0);
        x.set(1, 1);
        x.set(2, 2);
        x.set(3, 3);
        x.finish(x.ready());
        Check.same("the bytes", "10000000" + "0c001400" + "1000" + "0c00" + "0800" + "0400" + "0c000000"
            // 60 less 44, 56 less 36, 52 less 16, 48 less 8.
            + "10000000" + "14000000" + "24000000" + "28000000"
            // The vector of texts: 40 less 8; that of tables: 32 less 16, 28 less 16.
            + "01000000" + "20000000"
            + "02000000" + "10000000" + "0c000000" + "0000"
            // The table: its list, and 12 less 8.
            + "060008000400" + "06000000" + "04000000"
            + "0300000061626300", x::outHex);
    }

    // ---- values

    private static void sixHundredValues() {
        Check.sentence(BUILDING, "VALUES: a row of longs, at most 600.");
        Counted x = new Counted();
        for (int i = 0; i < 500; i++) {
            x.push(Long.MIN_VALUE + i);
        }
        Check.same("so many as calls allow, and one", 501, () -> x.push(0));
        // 512 calls don't reach 600, so this object makes more, though what they answer is free then.
        FlatTables y = new FlatTables();
        for (int i = 1; i < 600; i++) {
            y.push(i);
        }
        Check.same("the 600th", 600, () -> y.push(600));
        Check.same("one more", -1, () -> y.push(601));
        Check.same("600", 600, () -> y.count(1));
        Check.same("they are the first 600", 0, () -> y.vector(0, 4));
        Check.same("their bytes", 1204, () -> y.count(2));
    }

    private static void emptied(String what, Counted x, Object answer, Check.Call call, long... values) {
        x.pushAll(values);
        Check.same(what + " finds the values", values.length, () -> x.count(1));
        Check.same(what, answer, call);
        Check.same(what + " leaves no values", 0, () -> x.count(1));
    }

    private static void valuesAreEmptied() {
        Check.sentence(BUILDING, "A call that uses them empties it, whatever it answers or throws.");
        Counted x = Counted.with("table T{a:int;b:int;t:text;}root T;");
        emptied("vector()", x, 0, () -> x.vector(0, 5), 1, 2);
        emptied("vector() of another sort", x, IAE, () -> x.vector(4, 0), 1);
        emptied("vector() of no such scalar", x, IAE, () -> x.vector(0, 11), 1);
        emptied("vector() of no value", x, IAE, () -> x.vector(0, 0), 2);
        emptied("vector() of no such thing", x, IAE, () -> x.vector(1, 0), 9);
        emptied("set() while none is open", x, ISE, () -> x.set(0), 1);
        x.begin(0);
        emptied("vector() while one is open", x, ISE, () -> x.vector(0, 5), 1);
        emptied("set() of no such field", x, NSE, () -> x.set(3), 1);
        emptied("set() of no value", x, IAE, () -> x.set(0), 2147483648L);
        emptied("set() by too many", x, IAE, () -> x.set(0), 1, 1);
        emptied("set() of a default", x, false, () -> x.set(1), 0);
        emptied("set()", x, true, () -> x.set(0), 1);
        emptied("set() again", x, IAE, () -> x.set(0), 1);
        x.clear();
        x.fillRow(4000);
        emptied("vector() without room", x, UOE, () -> x.vector(0, 5), 1);
        x.begin(0);
        emptied("set() without room", x, UOE, () -> x.set(0), 1);
        x.clear();
        formerValues();
        // The calls that use none leave them.
        x.push(7);
        x.push(8);
        x.text("a");
        x.begin(0);
        x.readFrom(x.ready());
        x.up();
        x.write(0, 1);
        x.tape("table T{}root T;");
        x.schema();
        x.begin(0);
        x.clear();
        Check.same("what uses none leaves them", 2, () -> x.count(1));
    }

    /** Values that were used, or refused, are not looked at again. */
    private static void formerValues() {
        Counted x = Counted.with("struct S{a:byte;b:bool;}table T{s:S;b:bool;t:text;u:U;}table E{}union U{E}root T;");
        x.text("");
        x.table(1);
        x.pushAll(1 << 20, 1 << 20, 1 << 20, 1 << 20, 1 << 20);
        Check.same("great ones", IAE, () -> x.vector(0, 0));
        Check.same("a struct", 2, () -> x.vector(2, 0, 1, 1));
        Check.same("no structs", 3, () -> x.vector(2, 0));
        Check.same("a bool", 4, () -> x.vector(0, 0, 1));
        Check.same("no bools", 5, () -> x.vector(0, 0));
        Check.same("a text", 6, () -> x.vector(1, 0, 0));
        Check.same("no texts", 7, () -> x.vector(1, 0));
        x.begin(0);
        Check.same("a field that is a struct", true, () -> x.set(0, 1, 1));
        Check.same("a bool", true, () -> x.set(1, 1));
        Check.same("none, where former ones would do", IAE, () -> x.set(2));
        Check.same("one, where a former one would do", IAE, () -> x.set(3, 1));
    }

    // ---- texts, vectors

    private static void texts() {
        Check.sentence(BUILDING, "A TEXT of m bytes: bytes 0 come ahead, as few as make what is there, and m, and 1,"
            + " together divisible by 4; then a 0; then the m bytes; then the four that tell m.");
        int[] rows = {8, 8, 8, 8, 12, 12, 12, 12, 16};
        // The row has 14 bytes before: a table with an int and its list.
        int[] behind = {20, 20, 24, 24, 24, 24, 28, 28, 28};
        for (int i = 0; i < rows.length; i++) {
            int m = i;
            Counted x = Counted.with("table T{a:int;t:text;}root T;");
            Check.same("a text of " + m, 0, () -> x.textOf(m));
            Check.same("row", rows[m], () -> x.count(2));
            x.clear();
            x.table(0, 0, 1);
            Check.same("row", 14, () -> x.count(2));
            Check.same("a text of " + m, 1, () -> x.textOf(m));
            Check.same("row", behind[m], () -> x.count(2));
        }
        Counted y = Counted.with("table T{a:int;t:text;}root T;");
        // The row's memory has had other bytes before.
        y.textOf(100);
        y.clear();
        y.table(0, 0, -1);
        y.text("abcdefg");
        y.finish(y.table(0, 1, 1));
        Check.same("the bytes", "0c000000" + "08000800" + "00000400" + "08000000" + "04000000"
            + "07000000" + "61626364656667" + "00" + "0000" + "060008000400" + "06000000" + "ffffffff", y::outHex);
        Counted z = new Counted();
        Check.same("a text of 3995", 0, () -> z.textOf(3995));
        Check.same("fills the row", 4000, () -> z.count(2));
    }

    private static void vectors() {
        Check.sentence(BUILDING, "A VECTOR of m elements of SIZE s, ALIGNMENT a: bytes 0, as few as make what is there,"
            + " and m * s, together divisible by 4 and by a;");
        // The scalar, how many, the row before (0, or 4 by an empty vector), the row behind.
        int[][] rows = {{0, 0, 0, 4}, {0, 1, 0, 8}, {0, 4, 0, 8}, {0, 5, 0, 12}, {3, 1, 0, 8}, {3, 2, 0, 8}, {3, 3,
            0, 12},
            {5, 0, 0, 4}, {5, 1, 0, 8}, {9, 1, 0, 8}, {7, 0, 0, 4}, {7, 1, 0, 12}, {7, 2, 0, 20}, {10, 1, 0, 12},
            {0, 0, 4, 8}, {0, 1, 4, 12}, {0, 4, 4, 12}, {3, 1, 4, 12}, {5, 1, 4, 12}, {7, 0, 4, 12}, {7, 1, 4, 20},
            {8, 2, 4, 28}, {10, 0, 4, 12}};
        for (int[] row : rows) {
            Counted x = new Counted();
            if (row[2] == 4) {
                x.vector(0, 5);
            }
            x.vector(0, row[0], new long[row[1]]);
            Check.same(row[1] + " of " + row[0] + " ahead of " + row[2], row[3], () -> x.count(2));
        }
        Counted y = Counted.with("struct S{a:long;b:byte;}struct R{a:byte;b:byte;c:byte;}table T{a:int;}root T;");
        // The row has 14 bytes before.
        int[][] behind = {{2, 0, 0, 20}, {2, 0, 2, 36}, {2, 1, 3, 24}, {2, 1, 6, 24}, {0, 7, 1, 28}, {0, 5, 1, 24},
            {0, 3, 1, 20},
            {0, 1, 2, 20}, {0, 1, 3, 24}, {1, 0, 0, 20}};
        for (int[] row : behind) {
            y.clear();
            y.table(0, 0, 1);
            y.vector(row[0], row[1], new long[row[2]]);
            Check.same(row[2] + " values of " + row[0] + ", " + row[1], row[3], () -> y.count(2));
        }
        Check.sentence(BUILDING, "the elements (the first one first in memory); the four that tell m.");
        Counted z = Counted.with("struct S{a:short;b:byte;}table T{v:[short];w:[S];}root T;");
        z.vector(0, 3, 1, 2, 3);
        z.vector(2, 0, 4, 5, 6, 7);
        z.begin(0);
        z.set(0, 0);
        z.set(1, 1);
        z.finish(z.ready());
        Check.same("the bytes", "0c000000" + "08000c00" + "08000400" + "08000000" + "08000000" + "10000000"
            + "02000000" + "04000500" + "06000700" + "03000000" + "0100" + "0200" + "0300" + "0000", z::outHex);
    }

    // ---- tables

    private static void putAtOnce() {
        Check.sentence(BUILDING, "A TABLE: begin(); then what is set is put at once ALIGNED as it wants");
        Counted x = Counted.with("struct S{a:byte;b:short;}table T{a:byte;b:long;s:S;t:text;}root T;");
        x.text("");
        x.begin(0);
        Check.same("begin() puts nothing", 8, () -> x.count(2));
        x.set(0, 1);
        Check.same("a byte", 9, () -> x.count(2));
        x.set(1, 1);
        Check.same("a long", 24, () -> x.count(2));
        x.set(2, 1, 1);
        Check.same("a struct", 28, () -> x.count(2));
        x.set(3, 0);
        Check.same("a reference", 32, () -> x.count(2));
        x.finish(x.ready());
        Check.same("in the order of the calls, from the end on", true, () -> x.outHex().endsWith("18000000"
            + "01000100" + "0100000000000000" + "00000000000000" + "01" + "0000000000000000"));
    }

    private static void defaultsAndUnions() {
        Check.sentence(BUILDING, "(a SCALAR that is its DEFAULT is not put;");
        Counted x = Counted.with("struct S{a:int;}table T{a:int=7;b:bool=1;c:long=-1;d:double;s:S;u:ulong=5;}root T;");
        x.begin(0);
        Check.same("a", false, () -> x.set(0, 7));
        Check.same("b", false, () -> x.set(1, 1));
        Check.same("c", false, () -> x.set(2, -1));
        Check.same("d", false, () -> x.set(3, 0));
        Check.same("u", false, () -> x.set(5, 5));
        Check.same("nothing was put", 0, () -> x.count(2));
        Check.same("a struct has none", true, () -> x.set(4, 0));
        Check.same("it was put", 4, () -> x.count(2));
        x.clear();
        x.begin(0);
        Check.same("0 is not a's default", true, () -> x.set(0, 0));
        Check.same("0 is not b's default", true, () -> x.set(1, 0));
        Check.same("0 is not c's default", true, () -> x.set(2, 0));
        Check.same("they were put", 16, () -> x.count(2));
        Check.sentence(BUILDING, "of a UNION the REFERENCE first, then WHICH);");
        Counted y = Counted.with("table T{u:U;}table E{}union U{T,E}root T;");
        y.table(1);
        y.begin(0);
        y.set(0, 2, 0);
        Check.same("four bytes, and one", 13, () -> y.count(2));
        y.finish(y.ready());
        Check.same("which comes ahead", "0c000000" + "08000c00" + "07000800" + "08000000" + "000000" + "02" + "08000000"
            + "0400040004000000", y::outHex);
    }

    private static void ready() {
        Check.sentence(BUILDING, "ready(): four bytes ALIGNED 4, with which the TABLE begins (t is how many bytes came"
            + " since begin(), with these);");
        Counted x = Counted.with("table T{a:byte;b:short;}root T;");
        // The row's memory has had other bytes before.
        x.textOf(100);
        x.clear();
        x.text("");
        x.begin(0);
        x.set(0, -1);
        x.finish(x.ready());
        // A byte, three bytes 0, the four: t is 8.
        Check.same("a byte", "0c000000" + "0000" + "06000800" + "0700" + "06000000" + "000000ff"
            + "0000000000000000", x::outHex);
        x.table(0, 0, -1);
        // The row has 14 bytes; two bytes 0 come since begin(): t is 6.
        x.begin(0);
        x.finish(x.ready());
        Check.same("nothing", "08000000" + "04000600" + "04000000" + "0000" + "06000800" + "0700" + "06000000"
            + "000000ff",
            x::outHex);
    }

    private static void lists() {
        Check.sentence(BUILDING, "its LIST has the SLOTS up to the last one that is there (with none 4 bytes);");
        Counted x = Counted.with("table T{" + Raw.repeat(14, "f#:byte;") + "u:U;v:U;}table E{}union U{E}root T;");
        x.table(0);
        Check.same("none: 4 and 4", 8, () -> x.count(2));
        x.clear();
        x.begin(0);
        x.set(5, 0);
        x.ready();
        Check.same("a default is not there", 8, () -> x.count(2));
        for (int i = 0; i < 14; i++) {
            int f = i;
            x.clear();
            x.table(0, f, 1);
            Check.same("up to slot " + f, 8 + 4 + 2 * (f + 1), () -> x.count(2));
        }
        x.clear();
        x.table(1);
        x.begin(0);
        x.set(14, 1, 0);
        x.ready();
        Check.same("a union has two", 8 + 12 + 4 + 2 * 16, () -> x.count(2));
        x.clear();
        x.table(1);
        x.begin(0);
        x.set(15, 1, 0);
        x.ready();
        Check.same("the last of all", 8 + 12 + 4 + 2 * 18, () -> x.count(2));
        Counted y = Counted.with("table T{" + Raw.repeat(16, "f#:U;") + "}table E{}union U{E}root T;");
        y.table(1);
        Check.same("32 slots", 1, () -> y.table(0, 15, 1, 0));
        Check.same("row", 8 + 12 + 4 + 2 * 32, () -> y.count(2));
        Check.same("are accepted", true, () -> y.readFrom(1));
        Check.same("which", 1, () -> y.read(15));
        Check.same("the one ahead", 0, () -> y.has(14));
    }

    private static void equalLists() {
        Check.sentence(BUILDING, "if a LIST of just these bytes was put in this ROW before, it is that one;");
        Counted x = Counted.with("table T{a:int;b:int;}table E{c:int;}root T;");
        x.table(0);
        x.table(1);
        Check.same("one list, though of another table", 1, () -> x.count(7));
        Check.same("row", 12, () -> x.count(2));
        // Between the two is another one.
        x.begin(0);
        x.set(1, 1);
        x.set(0, 1);
        x.ready();
        Check.same("two lists", 2, () -> x.count(7));
        Check.same("row", 12 + 12 + 8, () -> x.count(2));
        x.table(0);
        Check.same("the first again", 2, () -> x.count(7));
        Check.same("row", 36, () -> x.count(2));
        x.begin(0);
        x.set(1, 2);
        x.set(0, 2);
        x.ready();
        Check.same("the second again", 2, () -> x.count(7));
        x.finish(4);
        // The lists are at 20 and 44, the tables at 4, 16, 28, 40, 48.
        Check.same("the bytes", "04000000" + "f0ffffff" + "02000000" + "02000000" + "e4ffffff"
            + "08000c00" + "04000800" + "08000000" + "01000000" + "01000000" + "fcffffff" + "04000400" + "04000000",
                x::outHex);
        Check.same("it is accepted", true, () -> x.load(1));
        greatLists();
        Check.sentence(BUILDING, "else it is put ALIGNED 2.");
        aLongerList();
        // Just these bytes, but of a text.
        Counted y = Counted.with("table T{a:int;b:short;}root T;");
        y.text("\4\0\4\0");
        y.table(0);
        Check.same("a text is no list", 1, () -> y.count(7));
        Check.same("row", 12 + 8, () -> y.count(2));
        // Equal slots, but another t; equal t, but another slot; the same slots, but one more.
        y.clear();
        y.table(0, 0, 1);
        y.text("");
        y.table(0, 0, 1);
        Check.same("one", 1, () -> y.count(7));
        y.table(0, 1, 1);
        Check.same("two", 2, () -> y.count(7));
        y.begin(0);
        y.set(1, 1);
        y.set(0, 1);
        y.ready();
        Check.same("three", 3, () -> y.count(7));
        y.begin(0);
        y.set(0, 1);
        y.set(1, 1);
        y.ready();
        Check.same("four", 4, () -> y.count(7));
        // Not in this row.
        y.finish(0);
        Check.same("none", 0, () -> y.count(7));
        y.table(0, 0, 1);
        Check.same("row", 14, () -> y.count(2));
        Check.same("one of the new row", 1, () -> y.count(7));
        y.clear();
        Check.same("none", 0, () -> y.count(7));
        y.table(0, 0, 1);
        Check.same("row", 14, () -> y.count(2));
        y.tape("table T{a:int;}root T;");
        y.schema();
        Check.same("none", 0, () -> y.count(7));
        y.table(0, 0, 1);
        Check.same("row", 14, () -> y.count(2));
        // Behind bytes that were another list in the former row.
        y.clear();
        y.table(0);
        Check.same("a shorter one", 8, () -> y.count(2));
    }

    /** Lists with numbers that one byte can't tell. */
    private static void greatLists() {
        Counted x = Counted.with("struct H{" + Raw.repeat(8, "f#:long;")
            + "}struct S{a:H;b:H;}table T{a:S;b:S;c:S;d:T;}root T;");
        for (int i = 0; i < 2; i++) {
            x.begin(0);
            for (int f = 0; f < 3; f++) {
                long[] values = new long[16];
                values[15] = f + 10 * i;
                x.set(f, values);
            }
            x.ready();
            x.text("");
            x.vector(0, 5);
        }
        // t is 388; c stands 4, b 132, a 260 from the table on. Behind the list of 10 bytes come a text and a vector.
        Check.same("row", 388 + 10 + 6 + 4 + 388 + 8 + 4, () -> x.count(2));
        Check.same("one list", 1, () -> x.count(7));
        Check.same("it is accepted", true, () -> x.readFrom(3));
        x.into(0);
        x.into(1);
        Check.same("the last of a", 10, () -> x.read(7));
    }

    /** A longer list with the same numbers, but for how many it has, is not of just these bytes. */
    private static void aLongerList() {
        Counted x = Counted.with("table T{a:long;b:int;}root T;");
        x.vector(0, 5);
        x.begin(0);
        x.set(1, 1);
        x.set(0, 1);
        x.ready();
        // t is 16, a stands 4, b 12 from the table on.
        Check.same("row", 4 + 16 + 8, () -> x.count(2));
        x.begin(0);
        x.set(0, 1);
        x.ready();
        // t is 16 by four bytes 0, a stands 4 from the table on.
        Check.same("row", 28 + 16 + 6, () -> x.count(2));
        Check.same("two lists", 2, () -> x.count(7));
    }

    // ---- finish()

    /** The row has 24 bytes, if 8 was not asked for before: then finish() tells 28, and 32 else. */
    private static void root(Counted x) {
        x.table(0);
        x.table(0);
        x.fillRow(24);
    }

    private static void finish() {
        Check.sentence(BUILDING, "finish(): the REFERENCE to the root TABLE is put ALIGNED by the greatest ALIGNMENT"
            + " that was asked for in this ROW (at least 4): THE OUT is the ROW.");
        Counted x = Counted.with("struct S{a:long;}struct R{a:int;}table T{a:long;s:S;r:R;b:byte;}root T;");
        root(x);
        Check.same("at least 4", 28, () -> x.finish(0));
        Check.same("the reference", 24, () -> x.out(0));
        x.begin(0);
        x.set(0, 0);
        x.ready();
        root(x);
        Check.same("what is not put does not ask", 28, () -> x.finish(0));
        x.vector(0, 7);
        x.vector(0, 5);
        x.table(0);
        Check.same("an empty vector of longs asks", 24, () -> x.finish(2));
        x.vector(0, 5);
        x.vector(0, 5);
        x.table(0);
        Check.same("one of ints does not", 20, () -> x.finish(2));
        x.vector(2, 0);
        x.vector(2, 1);
        x.table(0);
        Check.same("an empty vector of structs asks", 24, () -> x.finish(2));
        x.table(0, 0, 1);
        Check.same("row", 18, () -> x.count(2));
        x.vector(0, 5);
        Check.same("row", 24, () -> x.count(2));
        Check.same("a long asks", 32, () -> x.finish(0));
        x.table(0, 1, 0);
        x.vector(0, 5);
        Check.same("row", 24, () -> x.count(2));
        Check.same("a struct asks", 32, () -> x.finish(0));
        x.table(0, 2, 0);
        x.vector(0, 5);
        Check.same("row", 24, () -> x.count(2));
        Check.same("a struct of an int does not", 28, () -> x.finish(0));
        askedInVain();
    }

    /** A row that was cleared, another schema, a call that throws do not ask. */
    private static void askedInVain() {
        Counted x = Counted.with("table T{a:long;}root T;");
        x.vector(0, 7);
        x.clear();
        root(x);
        Check.same("clear() forgets it", 28, () -> x.finish(0));
        x.vector(0, 7);
        x.tape("table T{a:long;}root T;");
        x.schema();
        root(x);
        Check.same("schema() forgets it", 28, () -> x.finish(0));
        root(x);
        Check.same("finish() forgets it", 28, () -> x.finish(0));
        root(x);
        x.begin(0);
        Check.same("by two values", IAE, () -> x.set(0, 1, 1));
        x.ready();
        x.vector(0, 5);
        Check.same("what is refused does not ask", 36, () -> x.finish(0));
        Counted y = Counted.with("table T{a:long;}root T;");
        y.table(0);
        y.fillRow(3500);
        y.pushAll(new long[70]);
        Check.same("70 longs without room", UOE, () -> y.vector(0, 7));
        y.fillRow(3512);
        Check.same("they do not ask", 3516, () -> y.finish(0));
        Counted z = Counted.with("struct H{" + Raw.repeat(8, "f#:long;") + "}struct S{a:H;b:H;}table T{s:S;}root T;");
        z.table(0);
        z.fillRow(3876);
        z.begin(0);
        Check.same("a struct without room", UOE, () -> z.set(0, new long[16]));
        z.ready();
        Check.same("row", 3880, () -> z.count(2));
        Check.same("it does not ask", 3884, () -> z.finish(0));
    }

    private static void emptyThen() {
        Check.sentence(BUILDING, "The ROW, THINGS are empty then.");
        Counted x = Counted.with("table T{}root T;");
        x.finish(x.table(0));
        Check.same("the row", 0, () -> x.count(2));
        Check.same("things", 0, () -> x.count(3));
        Check.same("the thing is gone", IAE, () -> x.finish(0));
        Check.same("for a vector, too", IAE, () -> x.vector(3, 0, 0));
    }

    // ---- all calls that throw

    private static void firstExceptions() {
        Check.sentence(ALL_CALLS, "Of several exceptions the first one that a call names is thrown;");
        Counted x = Counted.with("table T{a:int;t:text(required);}root T;");
        x.fillRow(4000);
        x.begin(0);
        Check.same("text(): open, without room", ISE, () -> x.text("a"));
        Check.same("vector(): open, another sort", ISE, () -> x.vector(9, 0, 1));
        Check.same("vector(): open, no value, without room", ISE, () -> x.vector(0, 0, 2));
        Check.same("begin(): open, no such table", ISE, () -> x.begin(1));
        Check.same("set(): no such field, no values", NSE, () -> x.set(2));
        Check.same("set(): no value, without room", IAE, () -> x.set(0, 2147483648L));
        Check.same("set(): a default needs no room", false, () -> x.set(0, 0));
        Check.same("set(): set already, without room", IAE, () -> x.set(0, 1));
        Check.same("set(): no such thing, without room", IAE, () -> x.set(1, 1));
        Check.same("set(): without room", UOE, () -> x.set(1, 0));
        Check.same("ready(): required, without room", ISE, x::ready);
        Check.same("finish(): open, no such thing", ISE, () -> x.finish(9));
        x.clear();
        Check.same("set(): none is open, no such field", ISE, () -> x.set(2));
        Check.same("set(): none is open, no value", ISE, () -> x.set(0, 2147483648L));
        x.fillRow(4000);
        Check.same("vector(): no value, without room", IAE, () -> x.vector(0, 0, 2));
        Check.same("vector(): no such thing, without room", IAE, () -> x.vector(1, 0, 1));
        Check.same("finish(): no table, without room", IAE, () -> x.finish(0));
        Counted y = new Counted();
        Check.same("load(): another from, no schema", IAE, () -> y.load(2));
        Check.same("begin(): no schema", NSE, () -> y.begin(0));
    }

    private static void unchanged(String what, Counted x, String answer, Check.Call call) {
        String before = x.state();
        Check.same(what, answer, call);
        Check.same(what + " changes nothing", before, x::state);
    }

    private static void nothingChanges() {
        Check.sentence(ALL_CALLS, "a call that throws changes nothing but what is said in 1 and 4.");
        Counted x = Counted.with("table T{a:int;t:text(required);u:U;}table E{}union U{E}root T;");
        x.text("abc");
        x.table(1);
        x.begin(0);
        x.set(1, 0);
        x.readFrom(x.ready());
        x.into(1);
        x.text("abc");
        x.table(1);
        unchanged("set() while none is open", x, ISE, () -> x.set(0, 1));
        unchanged("ready() while none is open", x, ISE, x::ready);
        unchanged("begin() of none", x, NSE, () -> x.begin(2));
        unchanged("vector() of another sort", x, IAE, () -> x.vector(5, 0, 1));
        unchanged("vector() of no thing", x, IAE, () -> x.vector(1, 0, 1));
        unchanged("finish() of a text", x, IAE, () -> x.finish(0));
        unchanged("load() of another", x, IAE, () -> x.load(-1));
        x.begin(0);
        unchanged("begin() while one is open", x, ISE, () -> x.begin(1));
        Counted y = Counted.with("table T{a:int;t:text(required);u:U;}table E{}union U{E}root T;");
        y.text("abc");
        y.table(1);
        y.begin(0);
        unchanged("text() while one is open", y, ISE, () -> y.text("a"));
        unchanged("vector() while one is open", y, ISE, () -> y.vector(0, 5, 1));
        unchanged("set() of none", y, NSE, () -> y.set(3, 1));
        unchanged("set() of no value", y, IAE, () -> y.set(0, -2147483649L));
        unchanged("set() of a union by another thing", y, IAE, () -> y.set(2, 1, 0));
        unchanged("ready() without what is required", y, ISE, y::ready);
        unchanged("finish() while one is open", y, ISE, () -> y.finish(1));
        Check.same("what was refused can be set", true, () -> y.set(0, 5));
        y.set(1, 0);
        y.set(2, 1, 1);
        y.finish(y.ready());
        // As if there had been no call that throws.
        Check.same("the bytes", "10000000" + "0c001400" + "1000" + "0c00" + "0700" + "0800" + "0c000000" + "000000"
            + "01"
            + "10000000" + "10000000" + "05000000" + "04000400" + "04000000" + "0300000061626300", y::outHex);
        throwsWithoutRoom();
    }

    private static void throwsWithoutRoom() {
        Counted x = Counted.with("table T{a:int;b:long;u:U;}table E{c:byte;}union U{E}root T;");
        x.table(1);
        x.table(0);
        x.fillRow(3996);
        unchanged("text() without room", x, UOE, () -> x.text("a"));
        unchanged("vector() without room", x, UOE, () -> x.vector(0, 7, 1));
        x.begin(0);
        unchanged("set() without room", x, UOE, () -> x.set(1, 1));
        unchanged("set() of a union without room for which", x, UOE, () -> x.set(2, 1, 0));
        x.set(0, 1);
        unchanged("ready() without room", x, UOE, x::ready);
        Counted y = Counted.with("table T{a:int;b:long;u:U;}table E{c:byte;}union U{E}root T;");
        y.table(0);
        y.fillRow(4000);
        unchanged("finish() without room", y, UOE, () -> y.finish(0));
        y.tape("table T{}root U;");
        String before = y.state().replace("fault 0 0", "fault 5 14");
        Check.same("schema() with a fault", IAE, y::schema);
        Check.same("it tells the fault, and changes nothing", before, y::state);
    }

    private static void ownMemory() {
        Check.sentence(ALL_CALLS, "All memory is the class's own.");
        Counted x = Counted.with("table T{a:int;}root T;");
        Counted y = Counted.with("table T{b:bool;c:bool;}table E{}root E;");
        x.push(1);
        x.tape("a");
        x.begin(0);
        Check.same("another object's tape", 0, () -> y.count(0));
        Check.same("another object's values", 0, () -> y.count(1));
        Check.same("another object's open table", -1, () -> y.count(4));
        Check.same("another object's schema", 2, () -> y.size(1, 0));
        Check.same("its own", 1, () -> x.size(1, 0));
        Check.same("its own tape", 0, () -> x.find(false, 0));
        Check.same("its own values", true, () -> x.set(0));
    }

    private static void constants() {
        Check.sentence(ALL_CALLS, "`NONE = -1`: There is none.");
        Check.same("NONE", -1, () -> FlatTables.NONE);
        Check.same("what there is none of", FlatTables.NONE, () -> new FlatTables().out(0));
    }
}
