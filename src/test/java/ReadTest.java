/** Promises 21 to 27: node, has, read, into, up, write, byteAt. */
public final class ReadTest {
    private static final String NSE = "NoSuchElementException";

    public static void main(String[] args) {
        withoutABuffer();
        walking();
        scalars();
        unions();
        deepest();
        theLastBytes();
        writing();
        writingOverLists();
        bytes();
        Check.end();
    }

    private static void nodes(String what, Counted x, int... due) {
        for (int i = 0; i < due.length; i++) {
            int k = i;
            Check.same(what + ": node(" + k + ")", due[i], () -> x.node(k));
        }
        Check.same(what + ": node(5)", -1, () -> x.node(5));
        Check.same(what + ": node(-1)", -1, () -> x.node(-1));
    }

    private static void withoutABuffer() {
        Counted x = Counted.with("table T{a:int;}root T;");
        nodes("without", x, -1, -1, -1, -1, -1);
        Check.same("has", -1, () -> x.has(0));
        Check.same("read", NSE, () -> x.read(0));
        Check.same("into", -1, () -> x.into(0));
        Check.same("up", -1, x::up);
        Check.same("write", false, () -> x.write(0, 1));
        Check.same("byteAt", -1, () -> x.byteAt(0));
    }

    private static final String SCHEMA = "struct P{a:byte;b:short;}struct Q{a:bool;p:P;}"
        + "table E{z:int=5;}table T{i:int=-3;t:text;q:Q;k:T;v:[Q];w:[text];x:[T];y:[ushort];u:U;}"
        + "union U{E,T}root T;";

    /** A root (thing 9) with all of its fields. */
    private static Counted built() {
        Counted x = Counted.with(SCHEMA);
        x.text("hey");
        x.text("");
        x.begin(1);
        x.set(1, 0);
        x.set(0, 70000);
        x.ready();
        x.vector(2, 1, 1, -1, 258, 0, 7, -2);
        x.vector(1, 0, 1, 0);
        x.vector(3, 1, 2, 2);
        x.vector(0, 4, 65535, 0, 9);
        x.begin(0);
        x.ready();
        x.vector(3, 1);
        x.begin(1);
        x.set(1, 0);
        x.set(2, 1, 5, -300);
        x.set(3, 2);
        x.set(4, 3);
        x.set(5, 4);
        x.set(6, 5);
        x.set(7, 6);
        x.set(8, 1, 7);
        x.finish(x.ready());
        x.load(1);
        return x;
    }

    private static void walking() {
        Counted x = built();
        int root = x.out(0);
        nodes("root", x, 1, 1, root, 9, 0);
        for (int k = -1; k < 10; k++) {
            int part = k;
            Check.same("has(" + k + ")", k < 0 || k > 8 ? -1 : k == 0 ? 0 : 1, () -> x.has(part));
            if (k != 0 && k != 8) {
                Check.same("read(" + k + ")", NSE, () -> x.read(part));
            }
        }
        Check.same("the default", -3, () -> x.read(0));
        Check.same("no node of a scalar", -1, () -> x.into(0));
        Check.same("no node of none", -1, () -> x.into(9));
        Check.same("no node below", -1, () -> x.into(-1));
        nodes("still the root", x, 1, 1, root, 9, 0);

        Check.same("text", 4, () -> x.into(1));
        Check.same("its number", 0, () -> x.node(1));
        Check.same("its parts", 3, () -> x.node(3));
        Check.same("above", 1, () -> x.node(4));
        Check.same("its four bytes", 3, () -> x.byteAt(x.node(2)));
        Check.same("e", 'e' + 0, () -> x.read(1));
        Check.same("has 2", 1, () -> x.has(2));
        Check.same("has 3", -1, () -> x.has(3));
        Check.same("the 0 is no part", NSE, () -> x.read(3));
        Check.same("a byte is no node", -1, () -> x.into(0));
        Check.same("a byte is not written", false, () -> x.write(0, 65));
        Check.same("up", 1, x::up);

        Check.same("struct", 2, () -> x.into(2));
        Check.same("its number", 1, () -> x.node(1));
        Check.same("its parts", 2, () -> x.node(3));
        Check.same("a", 1, () -> x.read(0));
        Check.same("p", NSE, () -> x.read(1));
        Check.same("has p", 1, () -> x.has(1));
        Check.same("no third", -1, () -> x.has(2));
        Check.same("into p", 2, () -> x.into(1));
        Check.same("its number", 0, () -> x.node(1));
        Check.same("above", 2, () -> x.node(4));
        Check.same("b", -300, () -> x.read(1));
        Check.same("up", 2, x::up);
        Check.same("up", 1, x::up);
        Check.same("up from the root", -1, x::up);

        Check.same("vector of structs", 3, () -> x.into(4));
        Check.same("its number", 1, () -> x.node(1));
        Check.same("its parts", 2, () -> x.node(3));
        int vector = x.node(2);
        Check.same("no value", NSE, () -> x.read(0));
        Check.same("the second", 2, () -> x.into(1));
        Check.same("its place", vector + 4 + 6, () -> x.node(2));
        x.into(1);
        Check.same("its b", -2, () -> x.read(1));
        x.up();
        x.up();
        Check.same("no third", -1, () -> x.into(2));
        x.up();

        Check.same("vector of texts", 3, () -> x.into(5));
        Check.same("its number", 0, () -> x.node(1));
        Check.same("the first", 4, () -> x.into(0));
        Check.same("has no bytes", NSE, () -> x.read(0));
        Check.same("up", 3, x::up);
        Check.same("the second", 4, () -> x.into(1));
        Check.same("h", 'h' + 0, () -> x.read(0));
        x.up();
        x.up();

        Check.same("vector of tables", 3, () -> x.into(6));
        Check.same("its number", 1, () -> x.node(1));
        Check.same("the second", 1, () -> x.into(1));
        Check.same("i", 70000, () -> x.read(0));
        Check.same("k is not there", -1, () -> x.into(3));
        Check.same("u is not there", 0, () -> x.read(8));
        Check.same("u has no table", 0, () -> x.has(8));
        Check.same("nor a node", -1, () -> x.into(8));
        x.up();
        x.up();

        Check.same("vector of scalars", 3, () -> x.into(7));
        Check.same("its number", 4, () -> x.node(1));
        Check.same("65535", 65535, () -> x.read(0));
        Check.same("no node", -1, () -> x.into(0));
        Check.same("no fourth", NSE, () -> x.read(3));
    }

    private static void scalars() {
        Counted x = Counted.with("table T{a:bool;b:byte;c:ubyte;d:short;e:ushort;f:int;g:uint;h:long;i:ulong;"
            + "j:float;k:double;}root T;");
        long[] values = {1, -1, 255, -2, 65534, -3, 4294967293L, -4, -5, -1082130432L, 4607182418800017408L};
        x.begin(0);
        for (int f = 0; f < values.length; f++) {
            x.set(f, values[f]);
        }
        x.finish(x.ready());
        Check.same("load", true, () -> x.load(1));
        for (int i = 0; i < values.length; i++) {
            int f = i;
            Check.same("read(" + f + ")", values[f], () -> x.read(f));
        }
    }

    private static void unions() {
        Counted x = built();
        Check.same("which", 1, () -> x.read(8));
        Check.same("a union is not written", false, () -> x.write(8, 1));
        Check.same("into", 1, () -> x.into(8));
        Check.same("E", 0, () -> x.node(1));
        Check.same("z", 5, () -> x.read(0));
        Check.same("z is not there", 0, () -> x.has(0));
        Check.same("z is not written", false, () -> x.write(0, 6));
        Check.same("above", 1, () -> x.node(4));
        Check.same("up", 1, x::up);
        Check.same("T", 1, () -> x.node(1));
        // Which is stored, and 0: there is no table.
        byte[] none = Check.bytesOf(0x0c, 0, 0, 0, 6, 0, 5, 0, 4, 0, 0, 0, 8, 0, 0, 0, 0);
        Counted y = Counted.with("table T{u:U;}union U{T}root T;");
        Check.same("load", true, () -> y.load(none));
        Check.same("has", 0, () -> y.has(0));
        Check.same("read", 0, () -> y.read(0));
        Check.same("into", -1, () -> y.into(0));
    }

    /** 16 tables within one another, a vector behind each, and 12 structs within one another. */
    private static void deepest() {
        StringBuilder text = new StringBuilder("struct S0{a:bool;}");
        for (int i = 1; i < 12; i++) {
            text.append("struct S").append(i).append("{a:S").append(i - 1).append(";}");
        }
        Counted x = Counted.with(text + "table T{k:[T];v:[S11];}root T;");
        int v = x.vector(2, 11, 1);
        x.begin(0);
        x.set(1, v);
        int last = x.ready();
        for (int i = 1; i < 16; i++) {
            int vector = x.vector(3, 0, last);
            x.begin(0);
            x.set(0, vector);
            last = x.ready();
        }
        x.finish(last);
        Check.same("load", true, () -> x.load(1));
        for (int i = 1; i < 16; i++) {
            Check.same("vector", 3, () -> x.into(0));
            Check.same("table", 1, () -> x.into(0));
        }
        Check.same("vector", 3, () -> x.into(1));
        for (int i = 0; i < 12; i++) {
            Check.same("struct", 2, () -> x.into(0));
        }
        Check.same("above", 43, () -> x.node(4));
        Check.same("the bool", 1, () -> x.read(0));
        Check.same("no more", -1, () -> x.into(0));
        Check.same("write", true, () -> x.write(0, 0));
        Check.same("the root", 0, () -> x.node(4));
        Check.same("up", -1, x::up);
    }

    /** What stands last in a buffer of 4000 bytes. */
    private static void theLastBytes() {
        Counted x = Counted.with("table T{v:[uint];t:text;}root T;");
        x.vector(0, 6, 1, 4294967295L);
        x.tape(new byte[3959]);
        x.text();
        x.begin(0);
        x.set(0, 0);
        x.set(1, 1);
        int thing = x.ready();
        Check.same("finish", 4000, () -> x.finish(thing));
        Check.same("load", true, () -> x.load(1));
        x.into(0);
        Check.same("read", 4294967295L, () -> x.read(1));
        Check.same("write", true, () -> x.write(1, 0x04030201));
        Check.same("byteAt", 4, () -> x.byteAt(3999));
        Check.same("byteAt", -1, () -> x.byteAt(4000));
        Check.same("out", 255, () -> x.out(3999));
        Check.same("out", -1, () -> x.out(4000));
    }

    private static void writing() {
        Counted x = built();
        Check.same("not stored", false, () -> x.write(0, 1));
        Check.same("a text", false, () -> x.write(1, 1));
        Check.same("a struct", false, () -> x.write(2, 1));
        Check.same("a table", false, () -> x.write(3, 1));
        Check.same("a vector", false, () -> x.write(7, 1));
        Check.same("none", false, () -> x.write(9, 1));
        Check.same("below", false, () -> x.write(-1, 1));
        x.into(7);
        Check.same("no value", false, () -> x.write(1, 65536));
        Check.same("no value", false, () -> x.write(1, -1));
        Check.same("no element", false, () -> x.write(3, 1));
        Check.same("false leaves the node", 3, () -> x.node(0));
        int place = x.node(2) + 4 + 2;
        Check.same("an element", true, () -> x.write(1, 0x1234));
        Check.same("the root is at hand", 1, () -> x.node(0));
        Check.same("nothing is above", 0, () -> x.node(4));
        Check.same("lowest first", 0x34, () -> x.byteAt(place));
        Check.same("then the highest", 0x12, () -> x.byteAt(place + 1));
        Check.same("the next one stays", 9, () -> x.byteAt(place + 2));
        Check.same("the out stays", 0, () -> x.out(place));
        x.into(7);
        Check.same("read", 0x1234, () -> x.read(1));
        x.up();
        x.into(4);
        x.into(0);
        x.into(1);
        Check.same("in a struct", true, () -> x.write(1, -32768));
        x.into(4);
        x.into(0);
        Check.same("a bool that is none", false, () -> x.write(0, 2));
        x.into(1);
        Check.same("read", -32768, () -> x.read(1));
        x.up();
        x.up();
        x.up();
        x.into(3);
        Check.same("a field", true, () -> x.write(0, -3));
        x.into(3);
        Check.same("is stored, though its default", 1, () -> x.has(0));
        Check.same("its value", -3, () -> x.read(0));
        Check.same("what it was", true, () -> x.write(0, -3));
        Check.same("come to stays", 5, () -> x.count(8));
    }

    /** The list lies in the table: a is how many bytes it has, b the second byte of where a is. */
    private static void writingOverLists() {
        Counted x = Counted.with("table T{a:ushort;b:bool;}root T;");
        byte[] bytes = Check.bytesOf(4, 0, 0, 0, 0xfc, 0xff, 0xff, 0xff, 8, 0, 12, 0, 4, 0, 9, 0);
        Check.same("load", true, () -> x.load(bytes));
        Check.same("a", 8, () -> x.read(0));
        Check.same("b", 0, () -> x.read(1));
        Check.same("a would be elsewhere", false, () -> x.write(1, 1));
        Check.same("nothing changes", 0, () -> x.byteAt(13));
        Check.same("no fault is told", 0, () -> x.fault(2));
        Check.same("the list would be odd", false, () -> x.write(0, 7));
        Check.same("the list would be beyond", false, () -> x.write(0, 10));
        Check.same("nothing changes", 8, () -> x.byteAt(8));
        Check.same("b goes", true, () -> x.write(0, 6));
        Check.same("b is not there", 0, () -> x.has(1));
        Check.same("a", 6, () -> x.read(0));
        Check.same("a goes", true, () -> x.write(0, 4));
        Check.same("a is not there", 0, () -> x.has(0));
        Check.same("nothing is stored", false, () -> x.write(0, 8));
        Check.same("the byte", 4, () -> x.byteAt(8));
    }

    private static void bytes() {
        Counted x = Counted.with("table T{}root T;");
        byte[] bytes = Check.bytesOf(8, 0, 0, 0, 4, 0, 4, 0, 4, 0, 0, 0, 200);
        x.load(bytes);
        for (int i = 0; i < bytes.length; i++) {
            int k = i;
            Check.same("byteAt(" + k + ")", bytes[k] & 255, () -> x.byteAt(k));
        }
        Check.same("byteAt(13)", -1, () -> x.byteAt(13));
        Check.same("byteAt(-1)", -1, () -> x.byteAt(-1));
        Check.same("byteAt(max)", -1, () -> x.byteAt(Integer.MAX_VALUE));
        Check.same("no parts", -1, () -> x.has(0));
        Check.same("none", 0, () -> x.node(3));
    }
}
