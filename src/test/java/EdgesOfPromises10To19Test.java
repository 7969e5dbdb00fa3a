/** Promises 10 to 19, sentence by sentence: building. */
public final class EdgesOfPromises10To19Test {
    private static final String ISE = "IllegalStateException";
    private static final String IAE = "IllegalArgumentException";
    private static final String UOE = "UnsupportedOperationException";
    private static final String NSE = "NoSuchElementException";
    private static final int[] FAR = {Integer.MIN_VALUE, Integer.MIN_VALUE + 1, -2, -1, 4000, 65536,
        Integer.MAX_VALUE - 1,
        Integer.MAX_VALUE};
    /** Numbers of no thing; an int wraps some of them round to 0. */
    private static final long[] NO_THINGS = {-1, 300, 4294967296L, -4294967296L, 1L << 40, Long.MIN_VALUE,
        Long.MAX_VALUE};

    public static void main(String[] args) {
        all();
        Check.end();
    }

    static void all() {
        push();
        text();
        textThrows();
        vector();
        vectorThrows();
        vectorWithoutRoom();
        begin();
        set();
        setThrows();
        ready();
        readyThrows();
        finish();
        finishThrows();
        clear();
        out();
        count();
    }

    private static void push() {
        Check.sentence("Promise 10", "v comes behind the VALUES: how many there are;");
        Counted x = Counted.with("table T{v:[long];}root T;");
        long[] values = {Long.MIN_VALUE, -1, 0, 1, Long.MAX_VALUE};
        for (int i = 0; i < values.length; i++) {
            int k = i;
            Check.same("push", k + 1, () -> x.push(values[k]));
        }
        x.vector(0, 7);
        Check.same("behind none", 1, () -> x.push(9));
        x.vector(0, 7);
        x.readFrom(x.table(0, 0, 0));
        x.into(0);
        for (int i = 0; i < values.length; i++) {
            int k = i;
            Check.same("value " + k, values[k], () -> x.read(k));
        }
        Check.sentence("Promise 10", "NONE if there are 600.");
        // 512 calls don't reach 600, so this object makes more, though what they answer is free then.
        FlatTables y = new FlatTables();
        for (int i = 1; i < 600; i++) {
            y.push(i);
        }
        Check.same("the 600th", 600, () -> y.push(600));
        Check.same("the 601st", -1, () -> y.push(601));
        Check.same("the 602nd", -1, () -> y.push(602));
        Check.same("there are 600", 600, () -> y.count(1));
    }

    private static void text() {
        Check.sentence("Promise 11", "THE TAPE becomes a TEXT: its number.");
        Counted x = Counted.with("table T{t:text;}root T;");
        Check.same("an empty one", 0, x::text);
        Check.same("another one", 1, () -> x.text("a\0b\u00ff"));
        x.readFrom(x.table(0, 0, 1));
        x.into(0);
        Check.same("its bytes", "4 97 0 98 255", () -> x.node(3) + " " + x.read(0) + " " + x.read(1) + " "
            + x.read(2) + " "
            + x.read(3));
    }

    private static void textThrows() {
        Check.sentence("Promise 11", "IllegalStateException: a TABLE is open;");
        Counted x = Counted.with("table T{t:text;}root T;");
        x.begin(0);
        Check.same("open", ISE, () -> x.text("abc"));
        Check.same("open, an empty one", ISE, x::text);
        Check.same("no thing", 0, () -> x.count(3));
        x.ready();
        Check.same("ready", 1, () -> x.text("abc"));
        x.begin(0);
        x.clear();
        Check.same("cleared", 0, () -> x.text("abc"));
        Check.sentence("Promise 11", "UnsupportedOperationException: there are 300 THINGS,");
        Counted y = new Counted();
        for (int i = 0; i < 299; i++) {
            y.text();
        }
        Check.same("the 300th", 299, y::text);
        Check.same("the 301st", UOE, y::text);
        Check.same("there are 300", 300, () -> y.count(3));
        Check.same("the row stays", 2400, () -> y.count(2));
        Check.sentence("Promise 11", "or the ROW would be above 4000 bytes.");
        Counted z = new Counted();
        Check.same("3996 bytes, and five", UOE, () -> z.textOf(3996));
        Check.same("the row stays", 0, () -> z.count(2));
        Check.same("3995 bytes, and five", 0, () -> z.textOf(3995));
        Check.same("the row is full", 4000, () -> z.count(2));
        Check.same("no bytes, but five", UOE, z::text);
        Counted w = new Counted();
        Check.same("4000 bytes", UOE, () -> w.textOf(4000));
        w.fillRow(3988);
        Check.same("eight bytes, with three bytes 0, and five", UOE, () -> w.text("12345678"));
        Check.same("four bytes, with three bytes 0, and five", 1, () -> w.text("1234"));
        Check.same("the row is full", 4000, () -> w.count(2));
    }

    private static void vector() {
        Check.sentence("Promise 12", "The VALUES become a VECTOR of a sort: 0 of SCALAR n,");
        Counted x = Counted.with("struct P{a:byte;b:bool;}struct S{a:short;p:P;c:long;}table"
            + " T{v:[short];w:[S];t:[text];k:[T];}"
            + "table E{}root T;");
        Check.same("of shorts", 0, () -> x.vector(0, 3, -32768, 32767));
        Check.sentence("Promise 12", "2 of STRUCT n (each by the values of its SCALARS, those of STRUCTS within it"
            + " where they stand),");
        Check.same("of structs", 1, () -> x.vector(2, 1, -1, -2, 1, -3, 4, 5, 0, 6));
        Check.sentence("Promise 12", "1 of TEXTS,");
        x.text("");
        x.text("ab");
        Check.same("of texts", 4, () -> x.vector(1, 0, 3, 2, 3));
        Check.sentence("Promise 12", "3 of TABLE n (by the numbers of THINGS): its number.");
        x.table(0);
        Check.same("of tables", 6, () -> x.vector(3, 0, 5, 5));
        x.begin(0);
        x.set(0, 0);
        x.set(1, 1);
        x.set(2, 4);
        x.set(3, 6);
        Check.same("accepted", true, () -> x.readFrom(x.ready()));
        x.into(0);
        Check.same("shorts", "2 -32768 32767", () -> x.node(3) + " " + x.read(0) + " " + x.read(1));
        x.up();
        x.into(1);
        Check.same("structs", 2, () -> x.node(3));
        x.into(0);
        Check.same("a, c of the first", "-1 -3", () -> x.read(0) + " " + x.read(2));
        x.into(1);
        Check.same("its p", "-2 1", () -> x.read(0) + " " + x.read(1));
        x.up();
        x.up();
        x.into(1);
        Check.same("a, c of the second", "4 6", () -> x.read(0) + " " + x.read(2));
        x.into(1);
        Check.same("its p", "5 0", () -> x.read(0) + " " + x.read(1));
        x.up();
        x.up();
        x.up();
        x.into(2);
        Check.same("texts", 3, () -> x.node(3));
        x.into(1);
        Check.same("the second is empty", 0, () -> x.node(3));
        x.up();
        x.into(2);
        Check.same("the third", "2 98", () -> x.node(3) + " " + x.read(1));
        x.up();
        x.up();
        x.into(3);
        Check.same("tables", "2 0", () -> x.node(3) + " " + x.node(1));
        emptyVectors();
    }

    private static void emptyVectors() {
        Counted x = Counted.with("struct S{a:long;}table T{}root T;");
        Check.same("no scalars", 0, () -> x.vector(0, 0));
        Check.same("no texts", 1, () -> x.vector(1, 0));
        Check.same("no structs", 2, () -> x.vector(2, 0));
        Check.same("no tables", 3, () -> x.vector(3, 0));
        Check.same("row", 4 + 4 + 4 + 4, () -> x.count(2));
    }

    private static void vectorThrows() {
        Check.sentence("Promise 12", "IllegalStateException: a TABLE is open;");
        Counted x = Counted.with("struct S{a:byte;b:bool;}table T{}table E{}root T;");
        x.begin(0);
        Check.same("open", ISE, () -> x.vector(0, 5, 1));
        Check.same("open, no values", ISE, () -> x.vector(0, 5));
        x.ready();
        Check.same("ready", 1, () -> x.vector(0, 5, 1));
        Check.sentence("Promise 12", "IllegalArgumentException: another sort,");
        for (int sort : new int[] {4, 5, 6}) {
            Check.same("vector(" + sort + ", 0)", IAE, () -> x.vector(sort, 0));
        }
        for (int far : FAR) {
            Check.same("vector(" + far + ", 0)", IAE, () -> x.vector(far, 0));
        }
        Check.sentence("Promise 12", "no such n (of 1 n doesn't matter),");
        int[][] none = {{0, 11}, {2, 1}, {3, 2}};
        for (int[] row : none) {
            Check.same("vector(" + row[0] + ", " + row[1] + ")", IAE, () -> x.vector(row[0], row[1]));
            for (int far : FAR) {
                Check.same("vector(" + row[0] + ", " + far + ")", IAE, () -> x.vector(row[0], far));
            }
        }
        for (int far : FAR) {
            Check.same("of texts " + far, true, () -> x.vector(1, far) > 0);
        }
        Check.same("the last scalar", true, () -> x.vector(0, 10) > 0);
        Check.same("the last table", true, () -> x.vector(3, 1) > 0);
        ofTextsNDoesNotMatter();
        Check.sentence("Promise 12", "NO VALUE,");
        x.clear();
        Check.same("the first", IAE, () -> x.vector(0, 0, 2, 1, 1));
        Check.same("the last", IAE, () -> x.vector(0, 0, 1, 1, 2));
        Check.same("in a struct", IAE, () -> x.vector(2, 0, 127, 1, 128, 1));
        Check.same("in a struct's last", IAE, () -> x.vector(2, 0, 127, 1, 127, 2));
        Check.same("no thing", 0, () -> x.count(3));
        Check.sentence("Promise 12", "a THING that is none such,");
        x.text("a");
        x.table(0);
        x.table(1);
        x.vector(0, 5, 1);
        x.vector(1, 0, 0);
        for (long thing : NO_THINGS) {
            Check.same("of texts " + thing, IAE, () -> x.vector(1, 0, thing));
            Check.same("of tables " + thing, IAE, () -> x.vector(3, 0, thing));
        }
        for (long thing : new long[] {1, 2, 3, 4, 5}) {
            Check.same("of texts " + thing, IAE, () -> x.vector(1, 0, 0, thing));
        }
        for (long thing : new long[] {0, 2, 3, 4, 5}) {
            Check.same("of tables 0 " + thing, IAE, () -> x.vector(3, 0, 1, thing));
        }
        Check.same("of tables 1", IAE, () -> x.vector(3, 1, 1));
        Check.same("there are 5", 5, () -> x.count(3));
        Check.sentence("Promise 12", "or not as many VALUES as whole elements want;");
        Counted y = Counted.with("struct P{a:byte;b:bool;}struct S{a:byte;p:P;}table T{}root T;");
        Check.same("one of three", IAE, () -> y.vector(2, 1, 1));
        Check.same("two of three", IAE, () -> y.vector(2, 1, 1, 1));
        Check.same("three", 0, () -> y.vector(2, 1, 1, 1, 1));
        Check.same("four", IAE, () -> y.vector(2, 1, 1, 1, 1, 1));
        Check.same("five", IAE, () -> y.vector(2, 1, 1, 1, 1, 1, 1));
        Check.same("six", 1, () -> y.vector(2, 1, 1, 1, 1, 1, 1, 1));
        Check.same("none", 2, () -> y.vector(2, 1));
    }

    private static void ofTextsNDoesNotMatter() {
        Counted x = Counted.with("table T{v:[text];}root T;");
        x.text("a");
        x.vector(1, Integer.MAX_VALUE, 0);
        x.begin(0);
        Check.same("it is a vector of texts", true, () -> x.set(0, 1));
        x.ready();
        Check.same("another sort than one of ints", IAE, () -> x.vector(1, 0, 1));
    }

    private static void vectorWithoutRoom() {
        Check.sentence("Promise 12", "UnsupportedOperationException: as text().");
        Counted x = new Counted();
        for (int i = 0; i < 299; i++) {
            x.vector(0, 0);
        }
        Check.same("the 300th", 299, () -> x.vector(0, 0));
        Check.same("the 301st", UOE, () -> x.vector(0, 0));
        Check.same("the row stays", 1200, () -> x.count(2));
        // 499 longs have 3992 bytes, and four.
        Counted y = new Counted();
        y.pushAll(new long[499]);
        Check.same("499 longs", 0, () -> y.vector(0, 7));
        Check.same("row", 3996, () -> y.count(2));
        Check.same("no longs, with bytes 0 ahead", UOE, () -> y.vector(0, 7));
        Check.same("no ints", 1, () -> y.vector(0, 5));
        Check.same("the row is full", 4000, () -> y.count(2));
        Check.same("no more", UOE, () -> y.vector(0, 0));
        Counted z = new Counted();
        z.pushAll(new long[500]);
        Check.same("500 longs", UOE, () -> z.vector(0, 7));
        Check.same("the row stays", 0, () -> z.count(2));
        Counted w = Counted.with("struct H{" + Raw.repeat(8, "f#:long;") + "}struct S{a:H;b:H;}table T{}root T;");
        w.fillRow(3744);
        w.pushAll(new long[32]);
        Check.same("two structs of 128 bytes go beyond", UOE, () -> w.vector(2, 1));
        w.pushAll(new long[16]);
        Check.same("one does not", 1, () -> w.vector(2, 1));
        Check.same("row", 3744 + 128 + 4, () -> w.count(2));
        Check.same("four bytes more", 2, () -> w.vector(0, 2, new long[113]));
        Check.same("row", 3876 + 116 + 4, () -> w.count(2));
    }

    private static void begin() {
        Check.sentence("Promise 13", "A TABLE n is open, nothing set.");
        Counted x = Counted.with("table T{a:int=4;t:text(required);}table E{}root T;");
        Check.same("none", -1, () -> x.count(4));
        Check.same("E", "open", () -> x.begin(1));
        Check.same("it is open", 1, () -> x.count(4));
        x.ready();
        x.text("");
        Check.same("T", "open", () -> x.begin(0));
        Check.same("it is open", 0, () -> x.count(4));
        Check.same("a can be set", false, () -> x.set(0, 4));
        Check.same("t can be set", true, () -> x.set(1, 1));
        x.ready();
        Check.same("T again", "open", () -> x.begin(0));
        Check.same("t is not set", ISE, x::ready);
        Check.same("a can be set", true, () -> x.set(0, 5));
        x.clear();
        x.text("");
        x.begin(0);
        Check.same("behind clear(), too", true, () -> x.set(0, 5));
        x.set(1, 0);
        x.finish(x.ready());
        Check.same("what was set ahead of clear() is not there", "0c000000" + "08000c00" + "08000400" + "08000000"
            + "08000000"
            + "05000000" + "0000000000000000", x::outHex);
        Check.sentence("Promise 13", "IllegalStateException: one is open;");
        x.begin(1);
        Check.same("the same", ISE, () -> x.begin(1));
        Check.same("another", ISE, () -> x.begin(0));
        Check.same("the first stays open", 1, () -> x.count(4));
        x.clear();
        Check.sentence("Promise 13", "NoSuchElementException: there is no such one,");
        Check.same("2", NSE, () -> x.begin(2));
        for (int far : FAR) {
            Check.same("begin(" + far + ")", NSE, () -> x.begin(far));
        }
        Check.same("none is open", -1, () -> x.count(4));
        x.tape("table T{}root T;");
        x.schema();
        Check.same("a former one", NSE, () -> x.begin(1));
        Check.sentence("Promise 13", "or no SCHEMA.");
        Check.same("begin(0)", NSE, () -> new Counted().begin(0));
    }

    private static final String FIELDS = "struct P{a:byte;b:bool;}struct S{a:byte;p:P;}"
        + "table T{a:int=7;s:S;t:text;k:E;v:[int];w:[S];u:U;x:[text];y:[E];}table E{}union U{E,T}root T;";

    private static void set() {
        Check.sentence("Promise 14", "FIELD f of the open TABLE is set by the VALUES: one of a SCALAR, as many as a"
            + " STRUCT's SCALARS, one THING's number of a TEXT, TABLE, VECTOR (of just that sort and number), of a"
            + " UNION WHICH (1 and more) and a THING's: whether it was put.");
        Counted x = Counted.with(FIELDS);
        x.text("");
        x.table(1);
        x.vector(0, 5, 1);
        x.vector(2, 1, 1, 1, 1);
        x.table(0);
        x.vector(1, 0, 0);
        x.vector(3, 1, 1);
        x.begin(0);
        long[][] values = {{8}, {-1, -2, 1}, {0}, {1}, {2}, {3}, {2, 4}, {5}, {6}};
        for (int i = 0; i < values.length; i++) {
            int f = i;
            Check.same("set(" + f + ")", true, () -> x.set(f, values[f]));
        }
        Check.same("accepted", true, () -> x.readFrom(x.ready()));
        Check.same("a", 8, () -> x.read(0));
        Check.same("which", 2, () -> x.read(6));
        x.into(1);
        Check.same("a of s", -1, () -> x.read(0));
        x.into(1);
        Check.same("p of s", "-2 1", () -> x.read(0) + " " + x.read(1));
        x.table(1);
        x.begin(0);
        Check.same("the first member", true, () -> x.set(6, 1, 0));
        Check.same("a default was not put", false, () -> x.set(0, 7));
    }

    private static void setThrows() {
        Check.sentence("Promise 14", "IllegalStateException: none is open;");
        Counted x = Counted.with(FIELDS);
        Check.same("none was", ISE, () -> x.set(0, 1));
        x.table(0);
        Check.same("it is ready", ISE, () -> x.set(0, 1));
        x.begin(0);
        x.clear();
        Check.same("it was cleared", ISE, () -> x.set(0, 1));
        Check.sentence("Promise 14", "NoSuchElementException: there is no such FIELD;");
        x.begin(0);
        Check.same("set(9)", NSE, () -> x.set(9, 1));
        for (int far : FAR) {
            Check.same("set(" + far + ")", NSE, () -> x.set(far, 1));
        }
        x.clear();
        x.begin(1);
        Check.same("of a table without", NSE, () -> x.set(0, 1));
        x.clear();
        Check.sentence("Promise 14", "IllegalArgumentException: it is set already (also if it was not put),");
        x.text("");
        x.begin(0);
        x.set(0, 7);
        Check.same("it was not put", IAE, () -> x.set(0, 8));
        Check.same("by its default again", IAE, () -> x.set(0, 7));
        x.set(2, 0);
        Check.same("it was put", IAE, () -> x.set(2, 0));
        Check.same("another one", true, () -> x.set(1, 0, 0, 0));
        Check.same("set already", IAE, () -> x.set(1, 0, 0, 0));
        Check.sentence("Promise 14", "not as many VALUES,");
        Counted y = Counted.with(FIELDS);
        y.text("");
        y.table(1);
        y.vector(0, 5, 1);
        y.begin(0);
        long[][] wrong = {{0}, {0, 1, 1}, {1}, {1, 1, 1}, {1, 1, 1, 1, 1}, {2}, {2, 0, 0}, {3}, {3, 1, 1}, {4}, {4,
            2, 2}, {6}, {6, 1},
            {6, 1, 1, 1}};
        for (long[] row : wrong) {
            long[] values = java.util.Arrays.copyOfRange(row, 1, row.length);
            Check.same("set(" + row[0] + ") by " + values.length, IAE, () -> y.set((int) row[0], values));
        }
        Check.sentence("Promise 14", "NO VALUE,");
        Check.same("a", IAE, () -> y.set(0, 2147483648L));
        Check.same("a", IAE, () -> y.set(0, -2147483649L));
        // An int wraps it round to the default.
        Check.same("a", IAE, () -> y.set(0, 4294967303L));
        Check.same("s", IAE, () -> y.set(1, 128, 0, 0));
        Check.same("s", IAE, () -> y.set(1, 0, -129, 0));
        Check.same("s", IAE, () -> y.set(1, 0, 0, 2));
        noSuchThings();
        Check.sentence("Promise 14", "UnsupportedOperationException: the ROW would be above 4000 bytes.");
        setWithoutRoom();
    }

    private static void noSuchThings() {
        Check.sentence("Promise 14", "or a THING that is none such;");
        Counted x = Counted.with(FIELDS);
        x.text("");
        x.table(1);
        x.vector(0, 5, 1);
        x.vector(2, 1, 1, 1, 1);
        x.table(0);
        x.vector(1, 0, 0);
        x.vector(3, 1, 1);
        x.vector(0, 6, 1);
        x.vector(2, 0, 1, 1);
        x.vector(3, 0, 4);
        x.begin(0);
        // The only thing that suits each of these fields.
        int[][] suits = {{2, 0}, {3, 1}, {4, 2}, {5, 3}, {7, 5}, {8, 6}};
        for (int[] row : suits) {
            for (int i = 0; i <= 10; i++) {
                int thing = i;
                if (thing != row[1]) {
                    Check.same("set(" + row[0] + ") by thing " + thing, IAE, () -> x.set(row[0], thing));
                }
            }
        }
        // A union: its members E and T are the things 1 and 4.
        for (int i = 0; i <= 10; i++) {
            int thing = i;
            if (thing != 1) {
                Check.same("1 and " + thing, IAE, () -> x.set(6, 1, thing));
            }
            if (thing != 4) {
                Check.same("2 and " + thing, IAE, () -> x.set(6, 2, thing));
            }
        }
        Counted y = Counted.with(FIELDS);
        y.table(1);
        y.text("");
        y.begin(0);
        for (long which : new long[] {-1, 0, 3, 255, 256, 257, 4294967297L, -4294967295L, Long.MIN_VALUE + 1,
            Long.MIN_VALUE,
            Long.MAX_VALUE}) {
            Check.same(which + " and 0", IAE, () -> y.set(6, which, 0));
        }
        for (long thing : NO_THINGS) {
            Check.same("a text " + thing, IAE, () -> y.set(2, thing));
            Check.same("a table " + thing, IAE, () -> y.set(3, thing));
            Check.same("a vector " + thing, IAE, () -> y.set(4, thing));
            Check.same("1 and " + thing, IAE, () -> y.set(6, 1, thing));
        }
        Check.same("nothing was put", 16, () -> y.count(2));
        Check.same("all can still be set", true, () -> y.set(6, 1, 0) && y.set(2, 1) && y.set(3, 0));
    }

    private static void setWithoutRoom() {
        Counted x = Counted.with("struct P{a:byte;b:byte;c:byte;}table"
            + " T{a:byte;b:short;c:int;d:long;p:P;u:U;t:text;}union U{T}root T;");
        x.table(0);
        x.fillRow(3996);
        x.begin(0);
        Check.same("a long", UOE, () -> x.set(3, 1));
        Check.same("a union's which", UOE, () -> x.set(5, 1, 0));
        Check.same("three bytes", true, () -> x.set(4, 1, 1, 1));
        Check.same("row", 3999, () -> x.count(2));
        Check.same("a short", UOE, () -> x.set(1, 1));
        Check.same("an int", UOE, () -> x.set(2, 1));
        Check.same("a reference", UOE, () -> x.set(6, 1));
        Check.same("the row stays", 3999, () -> x.count(2));
        Check.same("a byte", true, () -> x.set(0, 1));
        Check.same("the row is full", 4000, () -> x.count(2));
        Check.same("a short", UOE, () -> x.set(1, 1));
        Check.same("a default needs none", false, () -> x.set(1, 0));
        // What had no room was not set.
        Check.same("a long", UOE, () -> x.set(3, 1));
        Check.same("a long's default", false, () -> x.set(3, 0));
    }

    private static void ready() {
        Check.sentence("Promise 15", "The open TABLE is ready: its number.");
        Counted x = Counted.with("table T{t:text(required);u:U(required);a:int;}table E{}union U{E}root T;");
        x.begin(1);
        Check.same("E", 0, x::ready);
        Check.same("none is open", -1, () -> x.count(4));
        Check.same("a thing", 1, () -> x.count(3));
        x.text("");
        x.begin(0);
        x.set(0, 1);
        x.set(1, 1, 0);
        Check.same("T", 2, x::ready);
        Check.same("accepted", true, () -> x.readFrom(2));
    }

    private static void readyThrows() {
        Check.sentence("Promise 15", "IllegalStateException: none is open,");
        Counted x = Counted.with("struct S{a:int;}table"
            + " T{t:text(required);s:S(required);k:E(required);v:[int](required);u:U(required);a:int;}"
            + "table E{}union U{E}root T;");
        Check.same("none was", ISE, x::ready);
        x.table(1);
        Check.same("it is ready already", ISE, x::ready);
        x.begin(1);
        x.clear();
        Check.same("it was cleared", ISE, x::ready);
        Check.sentence("Promise 15", "or what is required was not set;");
        x.text("");
        x.table(1);
        x.vector(0, 5);
        long[][] values = {{0}, {0}, {1}, {2}, {1, 1}};
        for (int i = 0; i < values.length; i++) {
            int without = i;
            x.begin(0);
            for (int f = 0; f < values.length; f++) {
                if (f != without) {
                    x.set(f, values[f]);
                }
            }
            Check.same("all but " + without, ISE, x::ready);
            Check.same("it stays open", 0, () -> x.count(4));
            x.set(without, values[without]);
            Check.same("all", 3 + without, x::ready);
        }
        x.begin(0);
        Check.same("none", ISE, x::ready);
        readyWithoutRoom();
    }

    private static void readyWithoutRoom() {
        Check.sentence("Promise 15", "UnsupportedOperationException: as text() (it stays open).");
        Counted x = Counted.with("table T{a:int;}root T;");
        for (int i = 0; i < 300; i++) {
            x.vector(0, 0);
        }
        x.begin(0);
        Check.same("behind 300 things", UOE, x::ready);
        Check.same("it stays open", 0, () -> x.count(4));
        Check.same("the row stays", 1200, () -> x.count(2));
        Check.same("no list was put", 0, () -> x.count(7));
        Check.same("a can still be set", true, () -> x.set(0, 1));
        Counted y = Counted.with("table T{a:int;}root T;");
        y.fillRow(3992);
        Check.same("four bytes, and a list of four", 1, () -> y.table(0));
        Check.same("the row is full", 4000, () -> y.count(2));
        y.begin(0);
        Check.same("four bytes more", UOE, y::ready);
        Check.same("it stays open", 0, () -> y.count(4));
        y.clear();
        y.table(0);
        y.fillRow(3996);
        Check.same("four bytes, the list is there", 2, () -> y.table(0));
        Check.same("the row is full", 4000, () -> y.count(2));
        Counted z = Counted.with("table T{a:int;}root T;");
        z.fillRow(3984);
        z.begin(0);
        z.set(0, 1);
        Check.same("four bytes, and a list of six", 1, z::ready);
        Check.same("row", 3998, () -> z.count(2));
        z.begin(0);
        Check.same("two bytes 0 and four", UOE, z::ready);
        Check.same("the row stays", 3998, () -> z.count(2));
        Counted w = Counted.with("table T{a:int;}root T;");
        w.fillRow(3988);
        w.begin(0);
        w.set(0, 1);
        Check.same("four bytes, and a list of six", UOE, w::ready);
        Check.same("the row stays", 3992, () -> w.count(2));
        Check.same("no list was put", 0, () -> w.count(7));
        Check.same("it stays open", 0, () -> w.count(4));
        Check.same("no thing", 1, () -> w.count(3));
        Counted v = Counted.with("table T{" + Raw.repeat(15, "f#:int;") + "l:int;}root T;");
        v.fillRow(3956);
        Check.same("eight bytes, and a list of 36", 1, () -> v.table(0, 15, 1));
        Check.same("the row is full", 4000, () -> v.count(2));
        v.clear();
        v.fillRow(3960);
        v.begin(0);
        v.set(15, 1);
        Check.same("four bytes, and a list of 36", UOE, v::ready);
        Check.same("the row stays", 3964, () -> v.count(2));
    }

    private static void finish() {
        Check.sentence("Promise 16", "The BUFFER with a THING as its root is THE OUT: how many bytes.");
        Counted x = Counted.with("table T{a:int;}table E{}root T;");
        x.table(0, 0, 5);
        x.table(0, 0, 6);
        Check.same("the first", 36, () -> x.finish(0));
        Check.same("so many", 36, () -> x.count(5));
        x.load(1);
        Check.same("its a", 5, () -> x.read(0));
        x.table(0, 0, 5);
        x.table(0, 0, 6);
        Check.same("the second", 36, () -> x.finish(1));
        x.load(1);
        Check.same("its a", 6, () -> x.read(0));
        x.table(0);
        Check.same("a smaller one", 12, () -> x.finish(0));
        Check.same("the out is that", "080000000400040004000000", x::outHex);
        Check.same("the buffer stays", 36, () -> x.count(6));
    }

    private static void finishThrows() {
        Check.sentence("Promise 16", "IllegalStateException: a TABLE is open;");
        Counted x = Counted.with("table E{}table T{}root T;");
        x.table(1);
        x.begin(0);
        Check.same("open", ISE, () -> x.finish(0));
        Check.same("it stays open", 0, () -> x.count(4));
        Check.same("no out", 0, () -> x.count(5));
        x.clear();
        Check.sentence("Promise 16", "IllegalArgumentException: there is no such THING,");
        Check.same("none at all", IAE, () -> x.finish(0));
        x.table(1);
        Check.same("1 of 1", IAE, () -> x.finish(1));
        Check.same("299 of 1", IAE, () -> x.finish(299));
        Check.same("300 of 1", IAE, () -> x.finish(300));
        for (int far : FAR) {
            Check.same("finish(" + far + ")", IAE, () -> x.finish(far));
        }
        Check.sentence("Promise 16", "or it is no TABLE of the root's number;");
        x.table(0);
        x.text("");
        x.vector(3, 1, 0);
        x.vector(0, 1);
        for (int i = 1; i <= 4; i++) {
            int thing = i;
            Check.same("thing " + thing, IAE, () -> x.finish(thing));
        }
        Check.same("no out", 0, () -> x.count(5));
        Check.same("the root's", 36, () -> x.finish(0));
        Counted w = new Counted();
        w.text();
        w.vector(0, 0);
        Check.same("without a schema a text", IAE, () -> w.finish(0));
        Check.same("without a schema a vector", IAE, () -> w.finish(1));
        Check.sentence("Promise 16", "UnsupportedOperationException: the ROW would be above 4000 bytes (all stays).");
        Counted y = Counted.with("table T{a:int;}root T;");
        y.table(0);
        y.finish(0);
        y.table(0);
        y.fillRow(4000);
        Check.same("4000 and 4", UOE, () -> y.finish(0));
        Check.same("the row", 4000, () -> y.count(2));
        Check.same("things", 2, () -> y.count(3));
        Check.same("lists", 1, () -> y.count(7));
        Check.same("the out", 12, () -> y.count(5));
        y.clear();
        y.table(0);
        y.fillRow(3996);
        Check.same("3996 and 4", 4000, () -> y.finish(0));
        Check.same("the out", 4000, () -> y.count(5));
        Counted z = Counted.with("table T{a:int;}root T;");
        z.fillRow(3984);
        z.table(0, 0, 1);
        Check.same("row", 3998, () -> z.count(2));
        Check.same("3998, two bytes 0, and 4", UOE, () -> z.finish(1));
        Check.same("all stays", 3998, () -> z.count(2));
        Check.same("the thing, too", UOE, () -> z.finish(1));
        z.clear();
        z.fillRow(3980);
        z.table(0, 0, 1);
        Check.same("3994, two bytes 0, and 4", 4000, () -> z.finish(1));
    }

    private static void clear() {
        Check.sentence("Promise 17", "The ROW, THINGS are empty, no TABLE is open: how many bytes the ROW had.");
        Counted x = Counted.with("table T{a:byte;b:byte;}root T;");
        Check.same("none", 0, x::clear);
        x.finish(x.table(0));
        x.load(1);
        x.text("abc");
        x.table(0);
        x.begin(0);
        x.set(0, 1);
        x.push(5);
        x.tape("b");
        Check.same("so many", 17, x::clear);
        int[] due = {1, 1, 0, 0, -1, 12, 12, 0, 1};
        for (int i = 0; i < due.length; i++) {
            int what = i;
            Check.same("count(" + what + ")", due[what], () -> x.count(what));
        }
        Check.same("none then", 0, x::clear);
        Check.same("the tape stays", 1, () -> x.find(false, 0));
        Check.same("the node stays", 1, () -> x.node(0));
        Check.same("no thing", IAE, () -> x.finish(0));
        x.begin(0);
        Check.same("the values stay", true, () -> x.set(1));
        Check.same("the row again", 1, x::clear);
        Counted y = new Counted();
        y.fillRow(4000);
        Check.same("a full row", 4000, y::clear);
        Check.same("has room again", 0, () -> y.text("a"));
    }

    private static void out() {
        Check.sentence("Promise 18", "Byte i of THE OUT (0 .. 255);");
        Counted x = Counted.with("table T{a:uint;}root T;");
        x.finish(x.table(0, 0, 0xff80017fL));
        int[] due = {12, 0, 0, 0, 0, 0, 6, 0, 8, 0, 4, 0, 6, 0, 0, 0, 0x7f, 1, 0x80, 0xff};
        for (int i = 0; i < due.length; i++) {
            int k = i;
            Check.same("out(" + k + ")", due[k], () -> x.out(k));
        }
        Check.sentence("Promise 18", "NONE.");
        Check.same("out(20)", -1, () -> x.out(20));
        for (int far : FAR) {
            Check.same("out(" + far + ")", -1, () -> x.out(far));
        }
        x.finish(x.table(0));
        Check.same("behind a smaller one", -1, () -> x.out(12));
        Check.same("its last", 0, () -> x.out(11));
        Check.same("no out", -1, () -> new Counted().out(0));
        Counted y = Counted.with("table T{}root T;");
        y.table(0);
        y.fillRow(3996);
        y.finish(0);
        // An empty table with its list stands at the end.
        Check.same("out(3996)", 4, () -> y.out(3996));
        Check.same("out(3999)", 0, () -> y.out(3999));
        Check.same("out(4000)", -1, () -> y.out(4000));
    }

    private static void count() {
        Check.sentence("Promise 19", "What 0: bytes of THE TAPE, 1: VALUES, 2: bytes of the ROW, 3: THINGS, 4: the"
            + " TABLE that is open (NONE), 5: bytes of THE OUT, 6: of THE BUFFER (0 without), 7: LISTS put in the ROW,"
            + " 8: TABLES that were come to by the latest load() that accepted.");
        Counted x = Counted.with("table E{}table T{a:int;v:[E];}root T;");
        counts("a schema", x, 0, 0, 0, 0, -1, 0, 0, 0, 0);
        x.table(0);
        x.vector(3, 0, 0, 0, 0);
        x.finish(x.table(1, 1, 1));
        counts("an out", x, 0, 0, 0, 0, -1, 44, 0, 0, 0);
        x.load(1);
        counts("a buffer", x, 0, 0, 0, 0, -1, 44, 44, 0, 4);
        x.table(0);
        x.table(0);
        x.table(1, 0, 5);
        counts("things and lists", x, 0, 0, 26, 3, -1, 44, 44, 2, 4);
        x.begin(1);
        x.set(0, 9);
        x.push(1);
        x.push(2);
        x.tape("abc");
        counts("an open table", x, 3, 2, 32, 3, 1, 44, 44, 2, 4);
        x.load(0);
        counts("a load() that is wrong", x, 0, 2, 32, 3, 1, 44, 44, 2, 4);
        Check.same("a load() that accepts", true, () -> x.load(Raw.hex("08000000 0400 0400 04000000 00")));
        counts("another buffer", x, 0, 2, 32, 3, 1, 44, 13, 2, 1);
        x.tape("table T{}root T;");
        x.schema();
        counts("another schema", x, 0, 2, 0, 0, -1, 44, 0, 0, 1);
        Check.sentence("Promise 19", "NONE for another what.");
        Check.same("count(9)", -1, () -> x.count(9));
        for (int far : FAR) {
            Check.same("count(" + far + ")", -1, () -> x.count(far));
        }
    }

    private static void counts(String when, Counted x, int... due) {
        for (int i = 0; i < due.length; i++) {
            int what = i;
            Check.same(when + ": count(" + what + ")", due[what], () -> x.count(what));
        }
    }
}
