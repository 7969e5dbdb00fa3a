/** Promise 20, load, with all that can be wrong, and what fault() and count() tell of it. */
public final class JudgeTest {
    public static void main(String[] args) {
        shortOnes();
        roots();
        lists();
        fields();
        missing();
        unions();
        texts();
        vectors();
        valuesInStructsAndVectors();
        deep();
        many();
        whatIsCalledWrongly();
        whatStays();
        Check.end();
    }

    private static byte[] bytes(String hex) {
        String digits = hex.replace(" ", "");
        byte[] all = new byte[digits.length() / 2];
        for (int i = 0; i < all.length; i++) {
            all[i] = (byte) Integer.parseInt(digits.substring(2 * i, 2 * i + 2), 16);
        }
        return all;
    }

    /** A place and what comes there, again and again. */
    private static byte[] with(byte[] bytes, int... changes) {
        byte[] changed = bytes.clone();
        for (int i = 0; i + 1 < changes.length; i += 2) {
            changed[changes[i]] = (byte) changes[i + 1];
        }
        return changed;
    }

    private static void judged(Counted x, byte[] bytes, int kind, int place) {
        String what = Check.hex(bytes);
        Check.same("load of " + what, kind == 0, () -> x.load(bytes));
        Check.same("kind in " + what, kind, () -> x.fault(2));
        Check.same("place in " + what, place, () -> x.fault(3));
        Check.same("the tape behind it", 0, () -> x.count(0));
    }

    private static final byte[] EMPTY = bytes("08000000 0400 0400 04000000");

    private static void shortOnes() {
        Counted x = Counted.with("table E{}root E;");
        for (int n = 0; n < 4; n++) {
            judged(x, new byte[n], 1, 0);
        }
        judged(x, new byte[4], 2, 0);
        Check.same("the out is empty", false, () -> x.load(1));
        Check.same("kind", 1, () -> x.fault(2));
    }

    private static void roots() {
        Counted x = Counted.with("table E{}root E;");
        judged(x, EMPTY, 0, 0);
        judged(x, with(EMPTY, 0, 0), 2, 0);
        judged(x, with(EMPTY, 0, 9), 2, 0);
        judged(x, with(EMPTY, 0, 12), 2, 0);
        judged(x, with(EMPTY, 0, 7), 3, 0);
        judged(x, with(EMPTY, 0, 6), 3, 0);
        judged(x, with(EMPTY, 3, 0x80), 2, 0);
        judged(x, bytes("ffffffff 0400 0400 04000000"), 2, 0);
        judged(x, bytes("fcffffff 0400 0400 04000000"), 2, 0);
        judged(x, java.util.Arrays.copyOf(EMPTY, 11), 2, 0);
        judged(x, java.util.Arrays.copyOf(EMPTY, 13), 0, 0);
    }

    private static void lists() {
        Counted x = Counted.with("table E{}root E;");
        judged(x, with(EMPTY, 8, 9), 6, 8);
        judged(x, with(EMPTY, 8, 12), 6, 8);
        judged(x, with(EMPTY, 8, 5), 6, 8);
        judged(x, with(EMPTY, 8, 3), 6, 8);
        judged(x, with(EMPTY, 8, -2, 9, -1, 10, -1, 11, -1), 6, 8);
        judged(x, with(EMPTY, 8, -1, 9, -1, 10, -1, 11, -1), 6, 8);
        judged(x, with(EMPTY, 11, 0x80), 6, 8);
        judged(x, with(EMPTY, 11, 0x7f), 6, 8);
        judged(x, with(EMPTY, 8, 0), 7, 8);
        judged(x, with(EMPTY, 8, 8), 8, 2);
        judged(x, with(EMPTY, 8, 2), 8, 8);
        judged(x, with(EMPTY, 4, 2), 7, 4);
        judged(x, with(EMPTY, 4, 3), 7, 4);
        judged(x, with(EMPTY, 4, 5), 7, 4);
        judged(x, with(EMPTY, 4, 6), 0, 0);
        judged(x, with(EMPTY, 4, 8), 0, 0);
        judged(x, with(EMPTY, 4, 9), 7, 4);
        judged(x, with(EMPTY, 4, 10), 7, 4);
        judged(x, with(EMPTY, 5, 0x80), 7, 4);
        judged(x, with(EMPTY, 6, 3), 8, 6);
        judged(x, with(EMPTY, 6, 5), 8, 6);
        judged(x, with(EMPTY, 7, 0x80), 8, 6);
        judged(x, with(EMPTY, 4, 3, 6, 3), 7, 4);
        // A list behind its table.
        judged(x, bytes("04000000 fcffffff 0400 0400"), 0, 0);
    }

    private static void fields() {
        Counted x = Counted.with("struct P{a:long;b:bool;}table T{i:int;b:byte;s:short;p:P;}root T;");
        // The list at 4 (12 bytes), the table at 16: i at 20, b at 24, s at 26, 4 bytes 0, p at 32; t is 32.
        byte[] good = bytes("10000000 0c00 2000 0400 0800 0a00 1000 0c000000 01000000 02 00 0300 00000000"
            + "0400000000000000 01 00000000000000");
        judged(x, good, 0, 0);
        Check.same("i", 1, () -> x.read(0));
        Check.same("b", 2, () -> x.read(1));
        Check.same("s", 3, () -> x.read(2));
        judged(x, with(good, 8, 0), 0, 0);
        Check.same("i is not there", 0, () -> x.has(0));
        judged(x, with(good, 4, 4), 0, 0);
        Check.same("p is not there", 0, () -> x.has(3));
        judged(x, with(good, 8, 1), 10, 8);
        judged(x, with(good, 8, 3), 10, 8);
        judged(x, with(good, 8, 28), 0, 0);
        judged(x, with(good, 8, 29), 10, 8);
        judged(x, with(good, 8, 32), 10, 8);
        judged(x, with(good, 9, 0xff), 10, 8);
        judged(x, with(good, 8, 5), 3, 8);
        judged(x, with(good, 8, 6), 3, 8);
        judged(x, with(good, 10, 31), 0, 0);
        judged(x, with(good, 10, 32), 10, 10);
        judged(x, with(good, 12, 30), 0, 0);
        judged(x, with(good, 12, 31), 10, 12);
        judged(x, with(good, 12, 11), 3, 12);
        judged(x, with(good, 14, 17), 10, 14);
        judged(x, with(good, 14, 12), 3, 14);
        judged(x, with(good, 14, 8), 11, 32);
        judged(x, with(good, 6, 31), 10, 14);
        judged(x, with(good, 6, 33), 8, 6);
        // Field by field, and of one field what is named first.
        judged(x, with(good, 12, 31, 10, 32), 10, 10);
        judged(x, with(good, 40, 2), 11, 40);
        judged(x, with(good, 41, 2, 47, 9), 0, 0);
        judged(x, with(good, 40, 2, 12, 11), 3, 12);
    }

    private static void missing() {
        Counted x = Counted.with("table T{a:text;b:text(required);c:bool;}root T;");
        // The list at 4, the table at 16: a at 20, b at 24, c at 28; a text at 32.
        byte[] good = bytes("10000000 0a00 0d00 0400 0800 0c00 0000 0c000000 0c000000 08000000 01 000000"
            + "01000000 41 00");
        judged(x, good, 0, 0);
        judged(x, with(good, 8, 0), 0, 0);
        judged(x, with(good, 10, 0), 9, 16);
        judged(x, with(good, 4, 8), 0, 0);
        judged(x, with(good, 4, 6), 9, 16);
        judged(x, with(good, 4, 4), 9, 16);
        judged(x, with(good, 10, 0, 28, 2), 9, 16);
        judged(x, with(good, 10, 0, 8, 3), 10, 8);
        judged(x, with(good, 10, 0, 37, 1), 14, 37);
    }

    private static void unions() {
        // The lists at 4 and 24, the tables at 12 and 28, which at 19, the reference at 20.
        byte[] good = bytes("0c000000 0800 0c00 0700 0800 08000000 000000 01 08000000 0400 0400 04000000");
        Counted x = Counted.with("table T{u:U;}table E{}union U{E,T}root T;");
        Counted y = Counted.with("table T{u:U(required);}table E{}union U{E,T}root T;");
        for (Counted z : new Counted[] {x, y}) {
            boolean isRequired = z == y;
            judged(z, good, 0, 0);
            Check.same("tables come to", 2, () -> z.count(8));
            judged(z, with(good, 19, 2), isRequired ? 9 : 0, isRequired ? 28 : 0);
            judged(z, with(good, 19, 3), 12, 19);
            judged(z, with(good, 19, 255), 12, 19);
            judged(z, with(good, 19, 0), 12, 10);
            judged(z, with(good, 8, 0), 12, 10);
            judged(z, with(good, 10, 0), 9, 12);
            judged(z, with(good, 4, 6), 9, 12);
            judged(z, with(good, 19, 0, 10, 0), isRequired ? 9 : 0, isRequired ? 12 : 0);
            judged(z, with(good, 4, 4), isRequired ? 9 : 0, isRequired ? 12 : 0);
            judged(z, with(good, 8, 3), 10, 8);
            judged(z, with(good, 8, 12), 10, 8);
            judged(z, with(good, 10, 3), 10, 10);
            judged(z, with(good, 10, 9), 10, 10);
            judged(z, with(good, 10, 9, 6, 14), 3, 10);
            judged(z, with(good, 10, 9, 19, 0), 12, 10);
            judged(z, with(good, 20, 0), 2, 20);
            judged(z, with(good, 20, 12), 2, 20);
            judged(z, with(good, 20, 6), 3, 20);
            judged(z, with(good, 28, 5), 6, 28);
        }
    }

    private static void texts() {
        Counted x = Counted.with("table T{a:text;b:[text];}root T;");
        byte[] whole = bytes("0c000000 0800 0c00 0400 0800 08000000 20000000 04000000"
            + "02000000 0c000000 10000000 00000000 00000000 00000000 03000000 41424300");
        // The list at 4, the table at 12: a at 16, b at 20.
        // The vector at 24 has elements at 28 and 32; texts at 40 (empty) and 48.
        judged(x, whole, 0, 0);
        Check.same("bytes", 56, () -> x.count(6));
        judged(x, with(whole, 55, 1), 14, 55);
        judged(x, with(whole, 48, 4), 13, 48);
        judged(x, with(whole, 48, 2), 14, 54);
        judged(x, with(whole, 51, 0x80), 13, 48);
        judged(x, with(whole, 51, 0xff, 50, 0xff, 49, 0xff, 48, 0xff), 13, 48);
        judged(x, with(whole, 44, 1), 14, 44);
        judged(x, with(whole, 28, 13), 3, 28);
        judged(x, with(whole, 32, 0), 2, 32);
        judged(x, with(whole, 32, 24), 2, 32);
        judged(x, with(whole, 32, 20), 13, 52);
        judged(x, with(whole, 24, 8), 13, 24);
        judged(x, with(whole, 24, 3), 2, 36);
    }

    private static void vectors() {
        Counted x = Counted.with("table T{v:[long];}root T;");
        byte[] good = bytes("0c000000 0600 0800 0400 0000 08000000 04000000 01000000 0807060504030201");
        judged(x, good, 0, 0);
        judged(x, with(good, 16, 8), 3, 24);
        judged(x, with(good, 16, 12), 13, 28);
        judged(x, with(good, 16, 6), 3, 16);
        judged(x, with(good, 16, 13), 2, 16);
        judged(x, with(good, 20, 0), 0, 0);
        judged(x, with(good, 20, 2), 13, 20);
        judged(x, with(good, 20, 0, 23, 0x20), 13, 20);
        judged(x, with(good, 20, 255, 21, 255, 22, 255, 23, 255), 13, 20);
        judged(x, java.util.Arrays.copyOf(good, 31), 13, 20);
        judged(x, with(java.util.Arrays.copyOf(good, 24), 20, 0), 0, 0);
        Counted y = Counted.with("table T{v:[short];}root T;");
        judged(y, with(good, 16, 8), 13, 24);
        judged(y, with(good, 20, 4), 0, 0);
        judged(y, with(good, 20, 5), 13, 20);
        Counted z = Counted.with("struct D{a:double;}table T{v:[D];}root T;");
        judged(z, good, 0, 0);
        judged(z, with(good, 16, 8, 24, 0), 3, 24);
        judged(z, with(good, 20, 2), 13, 20);
    }

    private static void valuesInStructsAndVectors() {
        Counted x = Counted.with("struct P{a:short;b:bool;c:bool;}struct Q{a:bool;p:P;}"
            + "table T{q:Q;v:[Q];b:[bool];}root T;");
        // The list at 4, the table at 16: q at 20, v at 28, b at 32; vectors at 36 and 52.
        byte[] good = bytes("10000000 0a00 1400 0400 0c00 1000 0000 0c000000 01 ff ffff 00 01 ffff"
            + "08000000 14000000 02000000 00 ff ffff 01 00 01 ff ffff 01 01 03000000 00 01 00");
        judged(x, good, 0, 0);
        int[] bools = {20, 24, 25, 40, 44, 45, 46, 50, 51, 56, 57, 58};
        for (int i = 0; i < bools.length; i++) {
            judged(x, with(good, bools[i], 2), 11, bools[i]);
            judged(x, with(good, bools[i], 255), 11, bools[i]);
            if (i > 0) {
                judged(x, with(good, bools[i], 2, bools[i - 1], 3), 11, bools[i - 1]);
            }
        }
        judged(x, with(good, 20, 2, 4, 4), 0, 0);
    }

    private static void chain(Counted x, int tables) {
        x.begin(0);
        x.ready();
        for (int i = 1; i < tables; i++) {
            x.begin(0);
            x.set(0, i - 1);
            x.ready();
        }
        x.finish(tables - 1);
    }

    private static void deep() {
        Counted x = Counted.with("table T{k:T;}root T;");
        chain(x, 16);
        Check.same("sixteen", true, () -> x.load(1));
        Check.same("come to", 16, () -> x.count(8));
        for (int i = 1; i < 16; i++) {
            Check.same("into", 1, () -> x.into(0));
        }
        Check.same("above", 15, () -> x.node(4));
        Check.same("the last has none", -1, () -> x.into(0));
        chain(x, 17);
        Check.same("seventeen", false, () -> x.load(1));
        Check.same("kind", 4, () -> x.fault(2));
        Check.same("place", 144, () -> x.fault(3));
        Check.same("come to stays", 16, () -> x.count(8));
        Check.same("at hand stays", 15, () -> x.node(4));
        // A table within itself.
        judged(x, bytes("0c000000 0600 0800 0400 0000 08000000 fcffffff"), 2, 16);
        Counted z = Counted.with("table T{k:U;}union U{T}root T;");
        chainOfUnions(z, 16);
        Check.same("sixteen in unions", true, () -> z.load(1));
        chainOfUnions(z, 17);
        Check.same("seventeen in unions", false, () -> z.load(1));
        Check.same("kind", 4, () -> z.fault(2));
        Counted y = Counted.with("table T{k:[T];}root T;");
        chainOfVectors(y, 16);
        Check.same("sixteen in vectors", true, () -> y.load(1));
        chainOfVectors(y, 17);
        Check.same("seventeen in vectors", false, () -> y.load(1));
        Check.same("kind", 4, () -> y.fault(2));
    }

    private static void chainOfUnions(Counted x, int tables) {
        x.begin(0);
        int last = x.ready();
        for (int i = 1; i < tables; i++) {
            x.begin(0);
            x.set(0, 1, last);
            last = x.ready();
        }
        x.finish(last);
    }

    private static void chainOfVectors(Counted x, int tables) {
        x.begin(0);
        int last = x.ready();
        for (int i = 1; i < tables; i++) {
            int vector = x.vector(3, 0, last);
            x.begin(0);
            x.set(0, vector);
            last = x.ready();
        }
        x.finish(last);
    }

    private static void crowd(Counted x, int elements) {
        x.begin(1);
        x.ready();
        for (int i = 0; i < elements; i++) {
            x.push(0);
        }
        x.vector(3, 1);
        x.begin(0);
        x.set(0, 1);
        x.finish(x.ready());
    }

    private static void many() {
        Counted x = Counted.with("table T{k:[E];}table E{}root T;");
        crowd(x, 199);
        Check.same("two hundred", true, () -> x.load(1));
        Check.same("come to", 200, () -> x.count(8));
        crowd(x, 200);
        Check.same("two hundred and one", false, () -> x.load(1));
        Check.same("kind", 5, () -> x.fault(2));
        Check.same("place", 820, () -> x.fault(3));
        Check.same("come to stays", 200, () -> x.count(8));
    }

    private static void whatIsCalledWrongly() {
        Counted x = new Counted();
        x.tape("abcdef");
        Check.same("another from", "IllegalArgumentException", () -> x.load(2));
        Check.same("another from", "IllegalArgumentException", () -> x.load(-1));
        Check.same("the tape stays", 6, () -> x.count(0));
        Check.same("no schema", "IllegalStateException", () -> x.load(1));
        Check.same("the tape stays", 6, () -> x.count(0));
        Check.same("no schema", "IllegalStateException", () -> x.load(0));
        Check.same("the tape is empty", 0, () -> x.count(0));
        Check.same("no fault", 0, () -> x.fault(2));
    }

    private static void whatStays() {
        Counted x = Counted.with("table T{a:int;t:text;}root T;");
        x.text("xyz");
        x.begin(0);
        x.set(1, 0);
        x.finish(x.ready());
        x.load(1);
        x.into(1);
        int n = x.count(6);
        judged(x, EMPTY, 0, 0);
        Check.same("another buffer", 12, () -> x.count(6));
        Check.same("its root", 8, () -> x.node(2));
        Check.same("nothing above", 0, () -> x.node(4));
        Check.same("the out again", true, () -> x.load(1));
        Check.same("bytes", n, () -> x.count(6));
        x.into(1);
        judged(x, with(EMPTY, 0, 0), 2, 0);
        Check.same("the buffer stays", n, () -> x.count(6));
        Check.same("the node stays", 4, () -> x.node(0));
        Check.same("a byte of it", 'y' + 0, () -> x.read(1));
        Check.same("a call that throws", "IllegalArgumentException", () -> x.load(7));
        Check.same("the fault stays", 2, () -> x.fault(2));
        // The buffer is a copy: the out and the tape go their own ways.
        x.begin(0);
        x.finish(x.ready());
        x.tape(new byte[60]);
        Check.same("a byte of it", 'y' + 0, () -> x.read(1));
    }
}
