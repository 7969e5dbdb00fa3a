/** Promises 4 to 9: schema, fault, size, field, standard, find. */
public final class SchemaTest {
    public static void main(String[] args) {
        faultsOfLexemes();
        faultsOfGrammar();
        namesTwice();
        oneMore();
        wrongNames();
        defaults();
        notTaken();
        greatStructs();
        sizesAndFields();
        finding();
        whatStays();
        Check.end();
    }

    private static void fault(String text, int kind, int place) {
        Counted x = new Counted();
        x.tape(text);
        Check.same("schema of " + text, "IllegalArgumentException", x::schema);
        Check.same("kind in " + text, kind, () -> x.fault(0));
        Check.same("place in " + text, place, () -> x.fault(1));
        Check.same("tape behind " + text, 0, () -> x.count(0));
    }

    /** The fault is at the last of the texts' first sign. */
    private static void faultAt(int kind, String ahead, String rest) {
        fault(ahead + rest, kind, ahead.length());
    }

    private static Counted good(String text, int tables) {
        Counted x = new Counted();
        x.tape(text);
        Check.same("schema of " + text, tables, x::schema);
        Check.same("kind in " + text, 0, () -> x.fault(0));
        Check.same("place in " + text, 0, () -> x.fault(1));
        return x;
    }

    private static String repeat(int n, String pattern) {
        StringBuilder all = new StringBuilder();
        for (int i = 0; i < n; i++) {
            all.append(pattern.replace("#", String.valueOf(i)));
        }
        return all.toString();
    }

    private static void faultsOfLexemes() {
        faultAt(1, "", "$");
        faultAt(1, "table T{}root T; ", "$");
        faultAt(1, "table T{}root T; // x\n", "\u00e4");
        faultAt(1, "table T{", "\0a:int;}root T;");
        faultAt(1, "table T{} ", "/ root T;");
        faultAt(1, "table T{} ", "/");
        faultAt(1, "table T{a:int=", "-;}root T;");
        faultAt(1, "table T{a:int=", "--1;}root T;");
        faultAt(1, "table T{a:long=", "1000000000000000000;}root T;");
        faultAt(1, "table T{a:long=", "-0000000000000000001;}root T;");
        faultAt(1, "table ", "a2345678901234567{}");
        faultAt(1, "table T{a:int;}root T;", ".");
        // What can't stand there counts first if it stands first.
        faultAt(2, "table T{} ", "x $");
        good("table a234567890123456{}root a234567890123456;", 1);
        good("table T{a:long=999999999999999999;b:long=-999999999999999999;}root T;", 1);
        good("//\n table\tT\r{ // a:int;\n}//x\nroot T;//", 1);
        good("table T{a:int//\n=//x\n7;}root T;", 1);
        good("table _{_a:_b;}table _b{A9:int=007;}root _b;", 2);
    }

    private static void faultsOfGrammar() {
        fault("", 2, 0);
        fault("  // nothing", 2, 12);
        fault("table", 2, 5);
        fault("table T", 2, 7);
        fault("table T{", 2, 8);
        fault("table T{}", 2, 9);
        fault("table T{}root", 2, 13);
        fault("table T{}root T", 2, 15);
        fault("table T{}root T ", 2, 16);
        faultAt(2, "table T{}root T;", ";");
        faultAt(2, "table T{}root T;", "root T;");
        faultAt(2, "table T{}root T;", "table U{}");
        faultAt(2, "table ", "5{}");
        faultAt(2, "struct S", ";");
        faultAt(2, "struct S{", "}");
        faultAt(2, "union U{", "}");
        faultAt(2, "union U{T", ";");
        faultAt(2, "union U{T,", "}");
        faultAt(2, "union U{T ", "T}");
        faultAt(2, "table T{a", ";}");
        faultAt(2, "table T{a:", ";}");
        faultAt(2, "table T{a:int", "}");
        fault("table T{a:[", 2, 11);
        faultAt(2, "table T{a:[", "[int]];}");
        faultAt(2, "table T{a:[", "];}");
        faultAt(2, "table T{a:[int", ";}");
        faultAt(2, "table T{a:int=", "x;}");
        faultAt(2, "table T{a:int=5", "=6;}");
        faultAt(2, "table T{a:int=", ";}");
        faultAt(2, "table T{a:text(", ");}");
        faultAt(2, "table T{a:text(required", ";}");
        faultAt(2, "table T{a:text(required)", "(required);}");
        faultAt(2, "table T{a:text(required)", "=5;}");
        faultAt(2, "table T{a:int ", "5;}");
        faultAt(2, "struct S{a:", "text;}");
        faultAt(2, "struct S{a:", "[int];}");
        faultAt(2, "struct S{a:int", "=5;}");
        faultAt(2, "struct S{a:int", "(required);}");
        faultAt(2, "table T{}root ", "5;");
        String[] keywords = {"struct", "table", "union", "root", "required", "text", "bool", "byte", "ubyte",
            "short", "ushort", "int", "uint", "long", "ulong", "float", "double"};
        for (String keyword : keywords) {
            faultAt(2, "table ", keyword + "{}");
            faultAt(2, "table T{", keyword + ":int;}");
            faultAt(2, "union U{", keyword + "}");
            faultAt(2, "table T{}root ", keyword + ";");
        }
        faultAt(2, "table T{a:", "required;}");
        faultAt(2, "", "Table T{}");
        good("table Int{Text:Int;tables:text;}root Int;", 1);
    }

    private static void namesTwice() {
        faultAt(3, "table T{}struct ", "T{a:int;}");
        faultAt(3, "struct T{a:int;}union ", "T{A}");
        faultAt(3, "union T{A}table ", "T{}");
        faultAt(3, "struct S{a:int;", "a:int;}");
        faultAt(3, "table T{a:int;b:int;", "a");
        faultAt(3, "union U{A,B,", "A,$");
        faultAt(3, "table abcdefgh12345678{}table abcdefgh12345679{}table ", "abcdefgh12345679{}");
        good("struct a{a:int;}table b{a:a;b:b;}union c{b}root b;", 1);
        good("table a23456789{}table b23456789{}table c234567890123456{}table d234567890123456{}root a23456789;", 4);
        good("table abcdefgh{}table abcdefgh1{}table h{}root h;", 3);
    }

    private static void oneMore() {
        String structs = repeat(12, "struct S#{a:int;}");
        String tables = repeat(16, "table T#{}");
        String unions = repeat(8, "union U#{T0}");
        Counted x = good(structs + tables + unions + "root T15;", 16);
        Check.same("structs", 12, () -> x.size(0, 0));
        Check.same("unions", 8, () -> x.size(2, 0));
        Check.same("root", 15, () -> x.size(3, 0));
        faultAt(4, structs + "struct ", "S12{a:int;}");
        faultAt(3, structs + "struct ", "S11{a:int;}");
        faultAt(4, tables + "table ", "T16{}");
        faultAt(3, tables + "table ", "T0{}");
        faultAt(4, unions + "union ", "U8{T0}");
        String structFields = "struct S{" + repeat(12, "f#:byte;");
        faultAt(4, structFields, "f12:byte;}");
        faultAt(3, structFields, "f3:byte;}");
        good(structFields + "}table T{}root T;", 1);
        String tableFields = "table T{" + repeat(16, "f#:byte;");
        faultAt(4, tableFields, "f16:byte;}");
        faultAt(3, tableFields, "f3:byte;}");
        good(tableFields + "}root T;", 1);
        String members = "union U{" + repeat(7, "T#,") + "T7";
        faultAt(4, members + ",", "T8}");
        faultAt(3, members + ",", "T1}");
        good(members + "}" + repeat(8, "table T#{}") + "root T0;", 8);
        faultAt(2, structs + "struct ", "int{a:int;}");
    }

    private static void wrongNames() {
        faultAt(5, "struct S{a:", "S;}");
        faultAt(5, "struct S{a:", "X;}");
        faultAt(5, "struct S{a:", "X$");
        faultAt(5, "table T{}struct S{a:", "T;}");
        faultAt(5, "union U{T}struct S{a:", "U;}");
        faultAt(5, "struct A{a:", "B;}struct B{a:int;}");
        faultAt(5, "table T{a:", "X;b:Y;}root Z;");
        faultAt(5, "table T{a:T;b:[", "X];}root Z;");
        faultAt(5, "table T{a:[", "U];}union U{T}root T;");
        faultAt(5, "union U{T,", "S}struct S{a:int;}table T{}root T;");
        faultAt(5, "union U{T,", "U}table T{}root T;");
        faultAt(5, "struct S{a:int;}root ", "S;");
        faultAt(5, "union U{T}table T{}root ", "U;");
        faultAt(5, "table T{}root ", "X;");
        // By their places in the text, not by sorts.
        faultAt(5, "union U{", "X}table T{a:Y;}root T;");
        faultAt(5, "table T{a:", "Y;}union U{X}root T;");
        // Only if there is nothing else.
        faultAt(2, "table T{a:X;}root T", "}");
        faultAt(7, "table T{a:X", "=5;}root T;");
        Counted x = good("table T{a:S;b:U;c:[S];d:[V];}union U{T,V}struct S{a:bool;}table V{}root V;", 2);
        Check.same("root", 1, () -> x.size(3, 9));
    }

    private static void defaultOf(String scalar, String lowest, String highest, String below, String above) {
        Counted x = good("table T{a:" + scalar + "=" + lowest + ";b:" + scalar + "=" + highest + ";}root T;", 1);
        Check.same("lowest of " + scalar, lowest, () -> x.standard(0, 0));
        Check.same("highest of " + scalar, highest, () -> x.standard(0, 1));
        if (below != null) {
            faultAt(6, "table T{a:" + scalar + "=", below + ";}root T;");
        }
        if (above != null) {
            faultAt(6, "table T{a:" + scalar + "=", above + ";}root T;");
        }
    }

    private static void defaults() {
        defaultOf("bool", "0", "1", "-1", "2");
        defaultOf("byte", "-128", "127", "-129", "128");
        defaultOf("ubyte", "0", "255", "-1", "256");
        defaultOf("short", "-32768", "32767", "-32769", "32768");
        defaultOf("ushort", "0", "65535", "-1", "65536");
        defaultOf("int", "-2147483648", "2147483647", "-2147483649", "2147483648");
        defaultOf("uint", "0", "4294967295", "-1", "4294967296");
        defaultOf("long", "-999999999999999999", "999999999999999999", null, null);
        defaultOf("ulong", "0", "999999999999999999", "-1", null);
        Counted x = good("table T{a:ulong=-0;b:int;c:text;d:float;}root T;", 1);
        for (int i = -1; i < 5; i++) {
            int f = i;
            Check.same("standard of " + f, 0, () -> x.standard(0, f));
        }
        Check.same("standard of no table", 0, () -> x.standard(1, 0));
        Check.same("standard of no table", 0, () -> x.standard(-1, 0));
        // Of ( required ) and a number that is no value the number stands first.
        faultAt(6, "table T{a:bool=", "2(required);}");
    }

    private static void notTaken() {
        for (String type : new String[] {"float", "double", "text", "[int]", "[text]", "X", "[X]"}) {
            faultAt(7, "table T{a:" + type, "=0;}");
            faultAt(7, "table T{a:" + type, "=$;}");
        }
        for (String type : new String[] {"bool", "int", "float", "double", "int=1"}) {
            faultAt(7, "table T{a:" + type, "(required);}");
            faultAt(7, "table T{a:" + type, "(x");
        }
        Counted x = good("struct S{a:int;}union U{T}table T{a:text(required);b:[int](required);c:S(required);"
            + "d:U(required);e:T(required);f:[T]( required );g:int;}root T;", 1);
        for (int i = 0; i < 7; i++) {
            int f = i;
            Check.same("required " + f, f < 6 ? 1 : 0, () -> x.field(false, 0, f, 4));
        }
    }

    private static void greatStructs() {
        String sixteen = "struct A{" + repeat(2, "f#:long;") + "}";
        String half = sixteen + "struct B{" + repeat(4, "f#:A;") + "}";
        Counted x = good(half + "struct C{a:B;b:B;}table T{}root T;", 1);
        Check.same("128 bytes", 128, () -> x.size(5, 2));
        faultAt(8, half + "struct C{a:B;b:B;c:bool;", "}$");
        // 121 bytes are made up to 128, so they are not too many; 129 would be.
        String wide = half + "struct C{a:B;b:A;c:A;d:A;e:long;f:bool;";
        Counted y = good(wide + "}table T{}root T;", 1);
        Check.same("made up to 128 bytes", 128, () -> y.size(5, 2));
        faultAt(8, wide + "g:long;", "}table T{}root T;");
        String bools = "struct A{" + repeat(12, "f#:bool;") + "}struct B{" + repeat(8, "f#:bool;") + "}struct C{"
            + repeat(10, "f#:A;") + "b:B;";
        Counted z = good(bools + "}table T{}root T;", 1);
        Check.same("128 bools", 128, () -> z.size(5, 2));
        faultAt(8, bools + "c:bool;", "}");
        faultAt(8, sixteen + "struct B{" + repeat(8, "f#:A;") + "f8:bool;f9:bool;", "}");
    }

    private static void sizesAndFields() {
        Counted x = good("struct P{a:byte;b:short;c:bool;}struct Q{a:bool;p:P;d:double;e:ubyte;}"
            + "table A{a:U;b:ushort=9;c:[Q];d:[text](required);e:text;f:P;g:A;h:V;i:[A];j:[float];}"
            + "table B{}union U{A,B}union V{B}root B;", 2);
        int[][] sizes = {{0, 5, 2}, {1, 0, 2}, {2, 0, 2}, {3, 7, 1}, {4, 0, 3}, {4, 1, 4}, {5, 0, 6}, {5, 1, 24},
            {6, 0, 2}, {6, 1, 8}, {7, 0, 10}, {7, 1, 0}, {8, 0, 12}, {8, 1, 0}, {9, 0, 2}, {9, 1, 1},
            {4, 2, -1}, {5, -1, -1}, {6, 2, -1}, {7, 2, -1}, {8, -1, -1}, {9, 2, -1}, {10, 0, -1}, {-1, 0, -1}};
        for (int[] row : sizes) {
            Check.same("size(" + row[0] + ", " + row[1] + ")", row[2], () -> x.size(row[0], row[1]));
        }
        int[][] tableFields = {{4, 0, -1, 0, 0}, {0, 4, -1, 2, 0}, {5, 1, 2, 3, 0}, {5, 0, 1, 4, 1},
            {1, 0, -1, 5, 0}, {2, 0, -1, 6, 0}, {3, 0, -1, 7, 0}, {4, 1, -1, 8, 0}, {5, 0, 3, 10, 0},
            {5, 9, 0, 11, 0}};
        int[][] structFields = {{0, 0, -1, 0, 0}, {2, 0, -1, 2, 0}, {0, 10, -1, 8, 0}, {0, 2, -1, 16, 0}};
        for (int i = 0; i < 5; i++) {
            int what = i;
            for (int j = 0; j < tableFields.length; j++) {
                int f = j;
                Check.same("field " + f + ", " + what, tableFields[f][what], () -> x.field(false, 0, f, what));
            }
            for (int j = 0; j < structFields.length; j++) {
                int f = j;
                Check.same("field of Q " + f + ", " + what, structFields[f][what], () -> x.field(true, 1, f, what));
            }
        }
        int[][] none = {{0, 10, 0}, {0, -1, 0}, {2, 0, 0}, {-1, 0, 0}, {1, 0, 0}, {0, 0, 5}, {0, 0, -1}};
        for (int[] row : none) {
            Check.same("no field", -1, () -> x.field(false, row[0], row[1], row[2]));
        }
        Check.same("no field of a struct", -1, () -> x.field(true, 0, 3, 0));
        Check.same("no struct", -1, () -> x.field(true, 2, 0, 0));
    }

    private static void find(Counted x, String name, boolean isStruct, int n, int due) {
        x.tape(name);
        Check.same("find " + name, due, () -> x.find(isStruct, n));
        Check.same("the tape behind find", 0, () -> x.count(0));
    }

    private static void finding() {
        Counted x = good("struct S{a:int;ab:int;}table T{a234567890123456:int;b:text;abcdefgh:S;abcdefghi:int;"
            + "bb:bool;}root T;", 1);
        find(x, "a234567890123456", false, 0, 0);
        find(x, "a2345678901234567", false, 0, -1);
        find(x, "a23456789012345", false, 0, -1);
        find(x, "b", false, 0, 1);
        find(x, "bb", false, 0, 4);
        find(x, "B", false, 0, -1);
        find(x, "abcdefgh", false, 0, 2);
        find(x, "abcdefghi", false, 0, 3);
        find(x, "", false, 0, -1);
        find(x, "b\0", false, 0, -1);
        find(x, "\0b", false, 0, -1);
        find(x, "abcdefgh\0", false, 0, -1);
        find(x, "abcdefgh\0i", false, 0, -1);
        find(x, " b", false, 0, -1);
        find(x, "ab", true, 0, 1);
        find(x, "ab", false, 0, -1);
        find(x, "a", true, 1, -1);
        find(x, "b", false, 1, -1);
        find(x, "b", false, -1, -1);
        find(new Counted(), "b", false, 0, -1);
    }

    private static void whatStays() {
        Counted x = good("table T{a:int;}root T;", 1);
        begun(x).set(0, 5);
        x.finish(x.ready());
        x.load(1);
        x.text("abc");
        x.begin(0);
        x.push(7);
        x.tape("table U{}table V{}root W;");
        Check.same("a fault", "IllegalArgumentException", x::schema);
        Check.same("kind", 5, () -> x.fault(0));
        Check.same("place", 23, () -> x.fault(1));
        int[] staying = {0, 1, 8, 1, 0, 20, 20, 0, 1};
        for (int i = 0; i < staying.length; i++) {
            int what = i;
            Check.same("count(" + what + ") stays", staying[i], () -> x.count(what));
        }
        Check.same("the schema stays", 1, () -> x.size(7, 0));
        Check.same("the node stays", 1, () -> x.node(0));
        find(x, "a", false, 0, 0);
        x.tape("table U{}table V{}root V;");
        Check.same("another schema", 2, x::schema);
        int[] after = {0, 1, 0, 0, -1, 20, 0, 0, 1};
        for (int i = 0; i < after.length; i++) {
            int what = i;
            Check.same("count(" + what + ") then", after[i], () -> x.count(what));
        }
        Check.same("no node", -1, () -> x.node(0));
        Check.same("no byte", -1, () -> x.byteAt(0));
        Check.same("the out stays", 12, () -> x.out(0));
        Check.same("root", 1, () -> x.size(3, 0));
        Check.same("no field", -1, () -> x.field(false, 0, 0, 0));
        x.tape("struct S{a:int;}table T{b:S;}root T;");
        Check.same("a third schema", 1, x::schema);
        Check.same("its fault", 0, () -> x.fault(0));
        find(x, "a", false, 0, -1);
        find(x, "b", false, 0, 0);
    }

    private static Counted begun(Counted x) {
        x.begin(0);
        return x;
    }
}
