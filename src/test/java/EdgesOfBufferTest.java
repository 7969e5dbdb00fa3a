/** "Terms" 3, sentence by sentence: the buffer, and how it is judged. No buffer here is built by the class. */
public final class EdgesOfBufferTest {
    private static final String BUFFER = "Terms 3";

    public static void main(String[] args) {
        all();
        Check.end();
    }

    static void all() {
        references();
        tablesAndLists();
        whatIsStored();
        oneAheadOfTheNext();
        shortOnes();
        outOfReach();
        referencesThatAreNotAligned();
        deep();
        many();
        listsOutOfReach();
        sizes();
        rooms();
        missing();
        fields();
        fieldsThatAreNotAligned();
        bools();
        which();
        unionsWithout();
        unionsWith();
        lengthsOfTexts();
        endsOfTexts();
        vectorsThatAreNotAligned();
        lengthsOfVectors();
        elements();
    }

    // ---- short ways

    private static void judged(Counted x, byte[] bytes, int kind, int place) {
        String hex = Check.hex(bytes);
        String what = hex.length() > 160 ? hex.substring(0, 160) + ".. (" + bytes.length + " bytes)" : hex;
        Check.same("load of " + what, kind == 0, () -> x.load(bytes));
        Check.same("kind in " + what, kind, () -> x.fault(2));
        Check.same("place in " + what, place, () -> x.fault(3));
    }

    private static void accepted(Counted x, byte[] bytes) {
        judged(x, bytes, 0, 0);
    }

    private static Counted empties() {
        return Counted.with("table E{}root E;");
    }

    /** An empty table at 8, its list at 4. */
    private static final byte[] EMPTY = Raw.hex("08000000 0400 0400 04000000");

    /** A table at 12 with one field of four bytes at 16, its list at 4; there is nothing behind. */
    private static final byte[] ONE = Raw.hex("0c000000 0600 0800 0400 0000 08000000 00000000");

    /** A field that is a reference at 16, a text at 20 with one byte, its 0 at 25. */
    private static final byte[] A_TEXT = Raw.hex("0c000000 0600 0800 0400 0000 08000000 04000000 01000000 41 00");

    // ---- what a buffer is

    private static void references() {
        Check.sentence(BUFFER, "A BUFFER is a row of bytes.");
        Counted x = empties();
        accepted(x, EMPTY);
        Check.same("its bytes", "080000000400040004000000", x::bufferHex);
        Check.sentence(BUFFER, "A REFERENCE is four bytes without a sign: how many bytes further on, from its own first"
            + " byte, what it leads to begins.");
        Counted y = Counted.with("table T{t:text;}root T;");
        accepted(y, A_TEXT);
        y.into(0);
        Check.same("16 and 4", 20, () -> y.node(2));
        accepted(y, Raw.with4(Raw.sized(A_TEXT, 33), 16, 12));
        y.into(0);
        Check.same("16 and 12", 28, () -> y.node(2));
        // With a sign these would lead back, to 12 and to 0.
        judged(y, Raw.with4(A_TEXT, 16, -4), 2, 16);
        judged(y, Raw.with4(A_TEXT, 16, -16), 2, 16);
        judged(y, Raw.with4(A_TEXT, 16, 0x80000000L), 2, 16);
        // The third and the fourth byte count, too.
        judged(y, Raw.with(A_TEXT, 18, 1), 2, 16);
        judged(y, Raw.with(A_TEXT, 19, 1), 2, 16);
        byte[] far = Raw.with4(Raw.sized(A_TEXT, 600), 16, 516);
        accepted(y, Raw.with(far, 532, 60));
        y.into(0);
        Check.same("16 and 516", 532, () -> y.node(2));
        Check.sentence(BUFFER, "At 0 stands the REFERENCE to the root TABLE.");
        accepted(x, EMPTY);
        Check.same("the root", 8, () -> x.node(2));
        accepted(x, Raw.hex("0c000000 0400 0400 00000000 08000000"));
        Check.same("the root", 12, () -> x.node(2));
        atTheVeryEnd();
    }

    /** In buffers of 4000 bytes, of which the last ones are the root, a field, a list, a text's 0, an element. */
    private static void atTheVeryEnd() {
        Counted x = empties();
        byte[] root = Raw.with4(Raw.with4(Raw.sized(EMPTY, 4000), 0, 3996), 3996, 3992);
        accepted(x, root);
        Check.same("the root", 3996, () -> x.node(2));
        judged(x, Raw.sized(root, 3999), 2, 0);
        Counted y = Counted.with("table T{a:int;t:text;v:[uint];}root T;");
        byte[] field = Raw.sized(Raw.hex("980f0000 0600 0800 0400"), 4000);
        Raw.put4(field, 3992, 3988);
        Raw.put4(field, 3996, -7);
        Raw.put4(field, 0, 3992);
        accepted(y, field);
        Check.same("a field", -7, () -> y.read(0));
        Check.same("it is written", true, () -> y.write(0, -8));
        Check.same("it is read", -8, () -> y.read(0));
        Counted z = Counted.with("table T{a:int;t:text;v:[uint];}root T;");
        // The list at 3990, behind its table at 4: t at 8, v at 12; the vector has its last element at 3996, a text its
        // 0 at 3999.
        byte[] list = Raw.sized(Raw.hex("04000000"), 4000);
        Raw.put4(list, 4, 4 - 3996);
        Raw.put2(list, 3996, 4);
        Raw.put2(list, 3998, 4);
        accepted(z, list);
        judged(z, Raw.sized(list, 3999), 6, 4);
        Counted w = Counted.with("table T{t:text;v:[uint];}root T;");
        // The list at 4, the table at 12: t at 16, v at 20.
        byte[] text = Raw.sized(Raw.hex("0c000000 0800 0c00 0400 0000 08000000"), 4000);
        Raw.put4(text, 16, 3992 - 16);
        Raw.put4(text, 3992, 3);
        accepted(w, text);
        judged(w, Raw.with(text, 3999, 1), 14, 3999);
        Counted v = Counted.with("table T{t:text;v:[uint];}root T;");
        byte[] vector = Raw.sized(Raw.hex("0c000000 0800 0c00 0000 0800 08000000"), 4000);
        Raw.put4(vector, 20, 3992 - 20);
        Raw.put4(vector, 3992, 1);
        Raw.put4(vector, 3996, 4294967295L);
        accepted(v, vector);
        v.into(1);
        Check.same("an element", 4294967295L, () -> v.read(0));
        Check.same("it is written", true, () -> v.write(0, 0x04030201));
        Check.same("the last byte", 4, () -> v.byteAt(3999));
    }

    private static void tablesAndLists() {
        Check.sentence(BUFFER, "A TABLE at p: four bytes with a sign: p less these is where its LIST stands; then what"
            + " is stored.");
        Counted x = Counted.with("table T{a:int;b:short;}root T;");
        // The list ahead of its table, and behind it.
        accepted(x, Raw.hex("0c000000 0600 0800 0400 0000 08000000 15000000"));
        Check.same("a", 21, () -> x.read(0));
        accepted(x, Raw.hex("04000000 f8ffffff 16000000 0600 0800 0400"));
        Check.same("a", 22, () -> x.read(0));
        Check.sentence(BUFFER, "A LIST: two bytes, how many it has in all (v); two bytes, how many the TABLE has in all"
            + " (t); then for SLOT 0, 1 .. two bytes each: how far from p on that is stored;");
        byte[] both = Raw.hex("0c000000 0800 0a00 0400 0800 08000000 17000000 1800");
        accepted(x, both);
        Check.same("a, 4 from p on", 23, () -> x.read(0));
        Check.same("b, 8 from p on", 24, () -> x.read(1));
        accepted(x, Raw.with(both, 10, 4));
        Check.same("b, 4 from p on", 23, () -> x.read(1));
        // A list may have more slots than its table; they do not matter.
        accepted(x, Raw.hex("10000000 0c00 0800 0400 0000 0100 ffff 0c000000 19000000"));
        Check.same("a", 25, () -> x.read(0));
        Check.sentence(BUFFER, "0, and where the LIST ends ahead of it: it is not there.");
        accepted(x, Raw.with(both, 8, 0));
        Check.same("0: a is not there", 0, () -> x.has(0));
        Check.same("b is", 1, () -> x.has(1));
        accepted(x, Raw.with(both, 4, 6));
        Check.same("a is there", 1, () -> x.has(0));
        Check.same("the list ends ahead of b", 0, () -> x.has(1));
        accepted(x, Raw.with(both, 4, 4));
        Check.same("the list ends ahead of a", 0, () -> x.has(0));
        Check.same("and of b", 0, () -> x.has(1));
        Check.sentence(BUFFER, "(All without a sign.)");
        judged(x, Raw.with2(both, 4, 0x8008), 7, 4);
        judged(x, Raw.with2(both, 4, 0xfffe), 7, 4);
        judged(x, Raw.with2(both, 6, 0x800a), 8, 6);
        judged(x, Raw.with2(both, 6, 0xffff), 8, 6);
        judged(x, Raw.with2(both, 8, 0x8004), 10, 8);
        judged(x, Raw.with2(both, 8, 0xfffc), 10, 8);
        // 200 bytes are -56 in one byte, 300 are more than one byte.
        byte[] wide = Raw.hex("0c000000 0600 2c01 c800 0000 08000000");
        accepted(x, Raw.with(Raw.sized(wide, 312), 212, 26));
        Check.same("a, 200 from p on", 26, () -> x.read(0));
        accepted(x, Raw.with(Raw.with2(Raw.sized(wide, 312), 8, 0x128), 308, 27));
        Check.same("a, 296 from p on", 27, () -> x.read(0));
        // A list of 260 bytes: 4 of them in one byte.
        byte[] longList = Raw.sized(Raw.hex("08010000 0401 0800 0400"), 272);
        Raw.put4(longList, 264, 260);
        Raw.put4(longList, 268, 28);
        accepted(x, longList);
        Check.same("a", 28, () -> x.read(0));
        judged(x, Raw.with2(longList, 4, 0x10e), 7, 4);
        accepted(x, Raw.with2(longList, 4, 0x10c));
    }

    private static void whatIsStored() {
        Check.sentence(BUFFER, "Stored are: SCALARS, STRUCTS as they are; WHICH one byte (1 is the first member); of"
            + " all others a REFERENCE.");
        Counted x = Counted.with("struct S{a:short;b:byte;}table T{a:short;s:S;t:text;v:[byte];k:E;u:U;}table E{}table"
            + " F{}"
            + "union U{E,F}root T;");
        // The list at 4 (18 bytes), 2 bytes 0, the table at 24: a at 28, which at 30, s at 32, t at 36, v at 40, k at
        // 44,
        // u's table at 48; a text at 52, a vector at 60, a list at 68, an empty table at 72.
        byte[] all = Raw.hex("18000000 1200 1c00 0400 0800 0c00 1000 1400 0600 1800 0000 14000000 0700 02 00 0900 fe 00"
            + "10000000 14000000 1c000000 18000000 01000000 42 00 0000 01000000 fd 000000 0400 0400 04000000");
        accepted(x, all);
        Check.same("a scalar as it is", 7, () -> x.read(0));
        Check.same("which", 2, () -> x.read(5));
        Check.same("a union's table by a reference", 1, () -> x.into(5));
        Check.same("of the second member", 2, () -> x.node(1));
        x.up();
        Check.same("a struct as it is", 2, () -> x.into(1));
        Check.same("at its place", 32, () -> x.node(2));
        x.up();
        Check.same("a text by a reference", 52, () -> x.into(2) == 4 ? x.node(2) : -9);
        x.up();
        Check.same("a vector by a reference", 60, () -> x.into(3) == 3 ? x.node(2) : -9);
        x.up();
        Check.same("a table by a reference", 72, () -> x.into(4) == 1 ? x.node(2) : -9);
        accepted(x, Raw.with(all, 30, 1));
        x.into(5);
        Check.same("1 is the first member", 1, () -> x.node(1));
        Check.sentence(BUFFER, "A TEXT: four bytes, how many bytes come; these; a byte 0.");
        accepted(x, all);
        x.into(2);
        Check.same("so many", 1, () -> x.node(3));
        Check.same("the byte", 0x42, () -> x.read(0));
        judged(x, Raw.with(all, 57, 1), 14, 57);
        accepted(x, Raw.with(all, 52, 0, 56, 0));
        x.into(2);
        Check.same("none", 0, () -> x.node(3));
        Check.sentence(BUFFER, "A VECTOR: four bytes, how many; then SCALARS, STRUCTS as they are, of others"
            + " REFERENCES.");
        accepted(x, all);
        x.into(3);
        Check.same("one", 1, () -> x.node(3));
        Check.same("a scalar as it is", -3, () -> x.read(0));
        Counted y = Counted.with("struct S{a:byte;b:bool;}table T{v:[S];w:[text];}root T;");
        // The list at 4, the table at 12: v at 16, w at 20; vectors at 24 and 32; texts at 44 and 52.
        accepted(y, Raw.hex("0c000000 0800 0c00 0400 0800 08000000 08000000 0c000000 02000000 0501 0600 02000000"
            + " 08000000"
            + "0c000000 00000000 00000000 01000000 43 00"));
        y.into(0);
        Check.same("two structs as they are", 2, () -> y.into(1));
        Check.same("the second", 30, () -> y.node(2));
        Check.same("its a", 6, () -> y.read(0));
        y.up();
        y.up();
        y.into(1);
        Check.same("two texts by references", 4, () -> y.into(1));
        Check.same("the second", 52, () -> y.node(2));
        Check.same("its byte", 0x43, () -> y.read(0));
    }

    private static void oneAheadOfTheNext() {
        Check.sentence(BUFFER, "TO JUDGE n bytes: from the root on, each thing wholly ahead of the next one, FIELD by"
            + " FIELD, element by element; kind and place of the first that is wrong:");
        Counted x = Counted.with("table T{k:T;b:bool;v:[E];}table E{c:bool;d:bool;}root T;");
        // The list of T at 4 (10 bytes), that of E at 14 (8 bytes), 2 bytes 0; T at 24: k at 28, v at 32, b at 36;
        // its k at 40: v at 48, b at 52 (k is not there, by a list at 56); a vector at 68 with E at 80 and 88.
        byte[] good = Raw.hex("18000000 0a00 1000 0400 0c00 0800 0800 0600 0400 0500 0000"
            + "14000000 0c000000 24000000 01 000000"
            + "f0ffffff 00000000 14000000 01 000000 0a00 0d00 0000 0c00 0800 0000"
            + "02000000 08000000 0c000000 42000000 00 01 0000 4a000000 01 00");
        accepted(x, good);
        Check.same("come to", 6, () -> x.count(8));
        // k is wholly judged ahead of b, though it stands behind it; the first elements ahead of the second.
        judged(x, Raw.with(good, 52, 2, 36, 2), 11, 52);
        judged(x, Raw.with(good, 36, 2), 11, 36);
        judged(x, Raw.with(good, 52, 2, 84, 2), 11, 52);
        judged(x, Raw.with(good, 36, 2, 84, 2), 11, 84);
        judged(x, Raw.with(good, 84, 2, 76, 1), 11, 84);
        judged(x, Raw.with(good, 85, 2, 76, 1), 11, 85);
        judged(x, Raw.with(good, 76, 1), 3, 76);
        judged(x, Raw.with(good, 76, 1, 93, 2), 3, 76);
        judged(x, Raw.with(good, 84, 2, 85, 2), 11, 84);
        judged(x, Raw.with(good, 92, 2, 93, 2), 11, 92);
        judged(x, Raw.with(good, 85, 2, 92, 2), 11, 85);
        // A field's number is judged with its field, not with its list.
        judged(x, Raw.with(good, 10, 3, 52, 2), 11, 52);
        judged(x, Raw.with(good, 10, 3), 10, 10);
        judged(x, Raw.with(good, 8, 3, 10, 3), 10, 8);
    }

    // ---- kinds 1 to 5

    private static void shortOnes() {
        Check.sentence(BUFFER, "1 SHORT: n is below 4, at 0.");
        Counted x = empties();
        for (int n = 0; n < 4; n++) {
            judged(x, Raw.full(n, 8), 1, 0);
        }
        judged(x, Raw.full(4, 8), 2, 0);
    }

    private static void outOfReach() {
        Check.sentence(BUFFER, "A REFERENCE at q (its number r, what it leads to at q + r): 2 OUT at q: r is 0,");
        Counted x = empties();
        judged(x, Raw.with(EMPTY, 0, 0), 2, 0);
        judged(x, new byte[4], 2, 0);
        Counted y = Counted.with("table T{t:text;}root T;");
        judged(y, Raw.with(A_TEXT, 16, 0), 2, 16);
        Check.sentence(BUFFER, "or q + r + 4 is above n.");
        accepted(x, EMPTY);
        judged(x, Raw.sized(EMPTY, 11), 2, 0);
        judged(x, Raw.with(EMPTY, 0, 9), 2, 0);
        judged(x, Raw.with(EMPTY, 0, 12), 2, 0);
        judged(x, Raw.with(EMPTY, 0, 16), 2, 0);
        // What int wraps round.
        for (long r : new long[] {0xffffffffL, 0xfffffffcL, 0xfffffff8L, 0x80000000L, 0x7ffffffcL, 0x7fffffffL}) {
            judged(x, Raw.with4(EMPTY, 0, r), 2, 0);
        }
        // n is 26: 22 and 4 are not above it, 23 and 4 are.
        judged(y, Raw.with(A_TEXT, 16, 6), 3, 16);
        judged(y, Raw.with(A_TEXT, 16, 7), 2, 16);
        judged(y, Raw.with(A_TEXT, 16, 8), 2, 16);
        judged(y, Raw.with(Raw.sized(A_TEXT, 27), 16, 8), 2, 16);
        judged(y, Raw.with(Raw.sized(A_TEXT, 28), 16, 8), 13, 24);
        for (long r : new long[] {0xffffffffL, 0xfffffffcL, 0xfffffff0L, 0xffffffecL, 0x80000000L, 0x7ffffff0L}) {
            judged(y, Raw.with4(A_TEXT, 16, r), 2, 16);
        }
        Counted z = Counted.with("table T{k:T;}root T;");
        judged(z, Raw.with4(ONE, 16, 4), 2, 16);
        judged(z, Raw.with4(Raw.sized(ONE, 24), 16, 4), 7, 20);
        Counted v = Counted.with("table T{v:[int];}root T;");
        judged(v, Raw.with4(ONE, 16, 4), 2, 16);
        accepted(v, Raw.with4(Raw.sized(ONE, 24), 16, 4));
    }

    private static void referencesThatAreNotAligned() {
        Check.sentence(BUFFER, "3 ALIGN at q: q + r is not divisible by 4.");
        Counted x = empties();
        for (int r = 1; r < 8; r++) {
            if (r != 4) {
                judged(x, Raw.with(EMPTY, 0, r), 3, 0);
            }
        }
        Counted y = Counted.with("table T{t:text;}root T;");
        for (int r : new int[] {1, 2, 3, 5, 6, 7}) {
            judged(y, Raw.with(Raw.sized(A_TEXT, 40), 16, r), 3, 16);
        }
        Counted z = Counted.with("table T{v:[text];}root T;");
        byte[] texts = Raw.hex("0c000000 0600 0800 0400 0000 08000000 04000000 01000000 04000000 00000000 00000000");
        accepted(z, texts);
        judged(z, Raw.with(texts, 24, 5), 3, 24);
        judged(z, Raw.with(texts, 24, 6), 3, 24);
        judged(z, Raw.with(texts, 16, 6), 3, 16);
    }

    /** Tables of the field k, each within the former one, from 16 on; the last one is empty. */
    private static byte[] chain(int tables) {
        byte[] bytes = new byte[16 + 8 * tables - 4];
        byte[] lists = Raw.hex("10000000 0600 0800 0400 0400 0400");
        System.arraycopy(lists, 0, bytes, 0, lists.length);
        for (int i = 0; i < tables; i++) {
            int p = 16 + 8 * i;
            boolean isLast = i == tables - 1;
            Raw.put4(bytes, p, isLast ? p - 10 : p - 4);
            if (!isLast) {
                Raw.put4(bytes, p + 4, 4);
            }
        }
        return bytes;
    }

    private static void deep() {
        Check.sentence(BUFFER, "A TABLE, behind its REFERENCE at q (of the root q is 0): 4 DEEP at q: it would be the"
            + " 17th TABLE within one another;");
        Counted x = Counted.with("table T{k:T;}root T;");
        accepted(x, chain(1));
        accepted(x, chain(15));
        accepted(x, chain(16));
        Check.same("come to", 16, () -> x.count(8));
        // The 16th is at 136.
        judged(x, chain(17), 4, 140);
        judged(x, chain(18), 4, 140);
        // Its reference is judged ahead of it, its list behind it.
        judged(x, Raw.with4(chain(17), 140, 8), 2, 140);
        judged(x, Raw.with4(chain(17), 140, 3), 3, 140);
        judged(x, Raw.with4(chain(17), 144, 9999), 4, 140);
        // In vectors, where the table within counts, not the vector.
        Counted y = Counted.with("table T{v:[T];}root T;");
        accepted(y, chainOfVectors(16));
        judged(y, chainOfVectors(17), 4, 16 + 15 * 16 + 12);
        // In unions.
        Counted z = Counted.with("table T{u:U;}union U{T}root T;");
        accepted(z, chainOfUnions(16));
        judged(z, chainOfUnions(17), 4, 16 + 15 * 12 + 4);
        // Side by side is not within one another.
        Counted v = Counted.with("table T{v:[E];}table E{}root T;");
        accepted(v, crowd(40));
    }

    /** As chain(), but each within a vector of one element, which stands behind its table. */
    private static byte[] chainOfVectors(int tables) {
        byte[] bytes = new byte[16 + 16 * tables - 12];
        byte[] lists = Raw.hex("10000000 0600 0800 0400 0400 0400");
        System.arraycopy(lists, 0, bytes, 0, lists.length);
        for (int i = 0; i < tables; i++) {
            int p = 16 + 16 * i;
            boolean isLast = i == tables - 1;
            Raw.put4(bytes, p, isLast ? p - 10 : p - 4);
            if (!isLast) {
                Raw.put4(bytes, p + 4, 4);
                Raw.put4(bytes, p + 8, 1);
                Raw.put4(bytes, p + 12, 4);
            }
        }
        return bytes;
    }

    /** As chain(), but each as a union's only member. */
    private static byte[] chainOfUnions(int tables) {
        byte[] bytes = new byte[16 + 12 * tables];
        byte[] lists = Raw.hex("10000000 0800 0900 0800 0400 0400 0400");
        System.arraycopy(lists, 0, bytes, 0, lists.length);
        for (int i = 0; i < tables; i++) {
            int p = 16 + 12 * i;
            boolean isLast = i == tables - 1;
            Raw.put4(bytes, p, isLast ? p - 12 : p - 4);
            if (!isLast) {
                Raw.put4(bytes, p + 4, 8);
                bytes[p + 8] = 1;
            }
        }
        return bytes;
    }

    /** A table with a vector of this many tables, all of which are one and the same; the vector is at 24. */
    private static byte[] crowd(int elements) {
        int last = 28 + 4 * elements;
        byte[] bytes = new byte[last + 4];
        byte[] lists = Raw.hex("10000000 0600 0800 0400 0400 0400");
        System.arraycopy(lists, 0, bytes, 0, lists.length);
        Raw.put4(bytes, 16, 12);
        Raw.put4(bytes, 20, 4);
        Raw.put4(bytes, 24, elements);
        for (int i = 0; i < elements; i++) {
            Raw.put4(bytes, 28 + 4 * i, last - 28 - 4 * i);
        }
        Raw.put4(bytes, last, last - 10);
        return bytes;
    }

    /** As crowd(), but behind the vector comes a chain of tables down to the 17th within one another. */
    private static byte[] crowdAndChain(int elements) {
        int empty = 40 + 4 * elements;
        int chain = empty + 4;
        byte[] bytes = new byte[chain + 16 * 8];
        // Lists of v and k at 4, of none at 12, of k at 16; the root at 24: v at 28, k at 32; the vector at 36.
        byte[] lists = Raw.hex("18000000 0800 0c00 0400 0800 0400 0400 0800 0800 0000 0400 14000000 08000000");
        System.arraycopy(lists, 0, bytes, 0, lists.length);
        Raw.put4(bytes, 32, chain - 32);
        Raw.put4(bytes, 36, elements);
        for (int i = 0; i < elements; i++) {
            Raw.put4(bytes, 40 + 4 * i, empty - 40 - 4 * i);
        }
        Raw.put4(bytes, empty, empty - 12);
        for (int i = 0; i < 16; i++) {
            int p = chain + 8 * i;
            Raw.put4(bytes, p, i < 15 ? p - 16 : p - 12);
            Raw.put4(bytes, p + 4, i < 15 ? 4 : 0);
        }
        return bytes;
    }

    private static void many() {
        Check.sentence(BUFFER, "5 MANY at q: the 201st TABLE that is come to (as often as it is come to).");
        Counted x = Counted.with("table T{v:[E];}table E{}root T;");
        accepted(x, crowd(199));
        Check.same("come to", 200, () -> x.count(8));
        judged(x, crowd(200), 5, 28 + 4 * 199);
        judged(x, crowd(201), 5, 28 + 4 * 199);
        Check.same("of the one that was accepted", 200, () -> x.count(8));
        // Its reference is judged ahead of it, its list behind it.
        judged(x, Raw.with4(crowd(200), 28 + 4 * 199, 0), 2, 28 + 4 * 199);
        // Of the two DEEP is named first: with 184 it is both, with 185 the one above is the 201st.
        Counted y = Counted.with("table T{v:[E];k:T;}table E{}root T;");
        judged(y, crowdAndChain(184), 4, 40 + 4 * 184 + 4 + 8 * 14 + 4);
        judged(y, crowdAndChain(185), 5, 40 + 4 * 185 + 4 + 8 * 13 + 4);
    }

    // ---- kinds 6 to 8

    private static void listsOutOfReach() {
        Check.sentence(BUFFER, "Then, it being at p: 6 LIST at p: its LIST would begin ahead of 0, at an odd place, or"
            + " with fewer than 4 bytes behind;");
        Counted x = empties();
        // At 0, where it can begin, its third byte is wrong.
        judged(x, Raw.with4(EMPTY, 8, 8), 8, 2);
        judged(x, Raw.with4(EMPTY, 8, 9), 6, 8);
        judged(x, Raw.with4(EMPTY, 8, 10), 6, 8);
        judged(x, Raw.with4(EMPTY, 8, 12), 6, 8);
        judged(x, Raw.with4(EMPTY, 8, 0x7fffffffL), 6, 8);
        judged(x, Raw.with4(EMPTY, 8, 0x7ffffffeL), 6, 8);
        // Odd places.
        judged(x, Raw.with4(EMPTY, 8, 1), 6, 8);
        judged(x, Raw.with4(EMPTY, 8, 3), 6, 8);
        judged(x, Raw.with4(EMPTY, 8, 5), 6, 8);
        judged(x, Raw.with4(EMPTY, 8, 7), 6, 8);
        // Four bytes behind, three, two, none, and beyond.
        accepted(x, Raw.hex("04000000 fcffffff 0400 0400"));
        byte[] behind = Raw.hex("04000000 fcffffff 0400 0400 0400 0400");
        accepted(x, Raw.with4(behind, 4, -8));
        judged(x, Raw.sized(Raw.with4(behind, 4, -8), 15), 6, 4);
        judged(x, Raw.sized(Raw.with4(behind, 4, -8), 14), 6, 4);
        judged(x, Raw.with4(behind, 4, -9), 6, 4);
        judged(x, Raw.with4(behind, 4, -10), 6, 4);
        judged(x, Raw.with4(behind, 4, -12), 6, 4);
        judged(x, Raw.with4(behind, 4, -14), 6, 4);
        judged(x, Raw.with4(behind, 4, 0x80000000L), 6, 4);
        judged(x, Raw.with4(behind, 4, 0x80000002L), 6, 4);
    }

    private static void sizes() {
        Check.sentence(BUFFER, "7 SIZE at the LIST: v below 4, odd, or beyond n;");
        Counted x = empties();
        for (int v : new int[] {0, 1, 2, 3, 5, 7, 9, 10, 12, 0x8004, 0xfffe, 0xffff}) {
            judged(x, Raw.with2(EMPTY, 4, v), 7, 4);
        }
        accepted(x, Raw.with2(EMPTY, 4, 4));
        accepted(x, Raw.with2(EMPTY, 4, 6));
        // 4 and 8 are 12, which is n.
        accepted(x, Raw.with2(EMPTY, 4, 8));
        judged(x, Raw.with2(Raw.sized(EMPTY, 13), 4, 10), 7, 4);
        accepted(x, Raw.with2(Raw.sized(EMPTY, 14), 4, 10));
        // Ahead of ROOM.
        judged(x, Raw.with(EMPTY, 4, 2, 6, 0), 7, 4);
    }

    private static void rooms() {
        Check.sentence(BUFFER, "8 ROOM at the LIST's third byte: t below 4, or p + t above n.");
        Counted x = empties();
        for (int t : new int[] {0, 1, 2, 3, 5, 6, 0x104, 0x8004, 0xffff}) {
            judged(x, Raw.with2(EMPTY, 6, t), 8, 6);
        }
        accepted(x, Raw.with2(EMPTY, 6, 4));
        accepted(x, Raw.with2(Raw.sized(EMPTY, 13), 6, 5));
        judged(x, Raw.with2(Raw.sized(EMPTY, 13), 6, 6), 8, 6);
        // Ahead of the fields.
        Counted y = Counted.with("table T{a:text(required);}root T;");
        judged(y, Raw.with2(EMPTY, 6, 3), 8, 6);
        judged(y, EMPTY, 9, 8);
    }

    // ---- kinds 9 to 12

    private static void missing() {
        Check.sentence(BUFFER, "Then by SLOTS, e being the place of its number in the LIST: What is not there and is"
            + " required (no UNION): 9 MISSING at p.");
        for (String type : new String[] {"text", "S", "E", "[int]", "[S]", "[text]", "[E]"}) {
            String schema = "struct S{a:int;}table E{}table T{a:int;b:" + type + "#;}root T;";
            Counted x = Counted.with(schema.replace("#", "(required)"));
            // The list ends ahead of b; then it has 0.
            judged(x, ONE, 9, 12);
            judged(x, Raw.with(ONE, 4, 8), 9, 12);
            judged(x, Raw.with(ONE, 4, 4), 9, 12);
            Counted y = Counted.with(schema.replace("#", ""));
            accepted(y, ONE);
            accepted(y, Raw.with(ONE, 4, 8));
            accepted(y, Raw.with(ONE, 4, 4));
        }
        // By slots: a is judged ahead of b.
        Counted z = Counted.with("table T{a:int;b:text(required);}root T;");
        judged(z, Raw.with(ONE, 8, 3), 10, 8);
        // What is missing in a table within.
        Counted w = Counted.with("table T{k:E;}table E{t:text(required);}root T;");
        judged(w, Raw.hex("0c000000 0600 0800 0400 0000 08000000 08000000 0400 0400 04000000"), 9, 24);
    }

    /** One field of a type, from p on at a number, in a table of t bytes; many bytes 0 behind. */
    private static byte[] fieldAt(int number, int t) {
        return Raw.with2(Raw.with2(Raw.sized(ONE, 60), 8, number), 6, t);
    }

    private static void fields() {
        Check.sentence(BUFFER, "What is there: 10 FIELD at e: its number is below 4, or it doesn't lie wholly in the t"
            + " bytes;");
        String[] types = {"bool", "byte", "ubyte", "short", "ushort", "int", "uint", "float", "S1", "S3", "S12"};
        int[] bytes = {1, 1, 1, 2, 2, 4, 4, 4, 1, 3, 12};
        for (int i = 0; i < types.length; i++) {
            Counted x = Counted.with("struct S1{a:bool;}struct S3{a:bool;b:S1;c:byte;}struct S12{a:int;b:int;c:byte;}"
                + "table T{a:" + types[i] + ";}root T;");
            for (int number = 1; number < 4; number++) {
                judged(x, fieldAt(number, 40), 10, 8);
            }
            accepted(x, fieldAt(4, 40));
            accepted(x, fieldAt(4, 4 + bytes[i]));
            judged(x, fieldAt(4, 3 + bytes[i]), 10, 8);
            judged(x, fieldAt(4, 4), 10, 8);
            judged(x, fieldAt(40, 40), 10, 8);
            judged(x, fieldAt(0xfffc, 40), 10, 8);
            accepted(x, fieldAt(0, 4));
        }
        for (String type : new String[] {"long", "ulong", "double", "S8"}) {
            Counted x = Counted.with("struct S8{a:double;}table T{a:" + type + ";}root T;");
            accepted(x, fieldAt(4, 12));
            judged(x, fieldAt(4, 11), 10, 8);
            judged(x, fieldAt(4, 8), 10, 8);
            judged(x, fieldAt(3, 12), 10, 8);
        }
        // A reference has four bytes; it is judged behind that.
        for (String type : new String[] {"text", "T", "[bool]", "[long]"}) {
            Counted x = Counted.with("table T{a:" + type + ";}root T;");
            judged(x, fieldAt(4, 8), 2, 16);
            judged(x, fieldAt(4, 7), 10, 8);
            judged(x, fieldAt(3, 8), 10, 8);
        }
    }

    private static void fieldsThatAreNotAligned() {
        Check.sentence(BUFFER, "3 ALIGN at e: its place (p and the number) is not divisible by its ALIGNMENT (of a"
            + " REFERENCE 4).");
        String[] types = {"bool", "byte", "ubyte", "short", "ushort", "int", "uint", "float", "long", "ulong", "double",
            "S1", "S2", "S4", "S8"};
        int[] alignments = {1, 1, 1, 2, 2, 4, 4, 4, 8, 8, 8, 1, 2, 4, 8};
        for (int i = 0; i < types.length; i++) {
            Counted x = Counted.with("struct S1{a:bool;b:byte;}struct S2{a:bool;b:short;}struct S4{a:S2;b:float;}"
                + "struct S8{a:bool;b:long;}table T{a:" + types[i] + ";}root T;");
            // p is 12, so a place that 8 divides has a number that 8 does not divide.
            for (int number = 4; number <= 12; number++) {
                boolean isGood = (12 + number) % alignments[i] == 0;
                judged(x, fieldAt(number, 40), isGood ? 0 : 3, isGood ? 0 : 8);
            }
            // FIELD is named first.
            judged(x, fieldAt(39, 39), 10, 8);
        }
        for (String type : new String[] {"text", "T", "[bool]", "[long]"}) {
            Counted x = Counted.with("table T{a:" + type + ";}root T;");
            for (int number = 4; number <= 12; number++) {
                judged(x, fieldAt(number, 40), number % 4 == 0 ? 2 : 3, number % 4 == 0 ? 12 + number : 8);
            }
        }
    }

    private static void bools() {
        Check.sentence(BUFFER, "11 VALUE at its byte: a bool that is neither 0 nor 1,");
        Counted x = Counted.with("table T{a:bool;}root T;");
        accepted(x, Raw.with(ONE, 16, 0));
        accepted(x, Raw.with(ONE, 16, 1));
        judged(x, Raw.with(ONE, 16, 2), 11, 16);
        judged(x, Raw.with(ONE, 16, 128), 11, 16);
        judged(x, Raw.with(ONE, 16, 255), 11, 16);
        accepted(x, Raw.with(ONE, 17, 255));
        // The bytes of other scalars are all values.
        Counted y = Counted.with("table T{a:byte;b:ubyte;c:float;}root T;");
        accepted(y, Raw.with4(Raw.hex("10000000 0a00 0800 0400 0400 0400 0000 0c000000 00000000"), 20, -1));
        Check.sentence(BUFFER, "in a STRUCT by FIELDS (and theirs),");
        Counted z = Counted.with("struct R{a:bool;b:short;c:bool;}struct S{a:byte;b:R;c:bool;}table T{s:S;}root T;");
        // a at 16, b at 18: 18, 20, 22; c at 24.
        byte[] struct = Raw.hex("0c000000 0600 0e00 0400 0000 08000000 ff ff 01 ff ffff 01 ff 01 ff");
        accepted(z, struct);
        judged(z, Raw.with(struct, 18, 2), 11, 18);
        judged(z, Raw.with(struct, 22, 2), 11, 22);
        judged(z, Raw.with(struct, 24, 2), 11, 24);
        judged(z, Raw.with(struct, 22, 2, 24, 3), 11, 22);
        judged(z, Raw.with(struct, 18, 2, 22, 2, 24, 3), 11, 18);
        Counted u = Counted.with("struct R{a:bool;b:bool;}struct S{a:R;b:bool;}table T{s:S;}root T;");
        byte[] first = Raw.hex("0c000000 0600 0800 0400 0000 08000000 00 00 00 00");
        accepted(u, first);
        judged(u, Raw.with(first, 16, 2), 11, 16);
        judged(u, Raw.with(first, 17, 2), 11, 17);
        judged(u, Raw.with(first, 18, 2), 11, 18);
        accepted(u, Raw.with(first, 19, 2));
        Check.sentence(BUFFER, "in a VECTOR by elements.");
        Counted v = Counted.with("table T{v:[bool];}root T;");
        byte[] vector = Raw.hex("0c000000 0600 0800 0400 0000 08000000 04000000 03000000 01 00 01 ff");
        accepted(v, vector);
        judged(v, Raw.with(vector, 24, 2), 11, 24);
        judged(v, Raw.with(vector, 26, 255), 11, 26);
        judged(v, Raw.with(vector, 25, 2, 26, 2), 11, 25);
        judged(v, Raw.with(vector, 20, 4), 11, 27);
        Counted w = Counted.with("struct S{a:bool;b:byte;c:bool;}table T{v:[S];}root T;");
        byte[] structs = Raw.hex("0c000000 0600 0800 0400 0000 08000000 04000000 02000000 01 ff 01 00 ff 01 ff");
        accepted(w, structs);
        judged(w, Raw.with(structs, 26, 2, 27, 2), 11, 26);
        judged(w, Raw.with(structs, 29, 2), 11, 29);
        judged(w, Raw.with(structs, 24, 2), 11, 24);
        judged(w, Raw.with(structs, 27, 2), 11, 27);
    }

    /** A union of E and F at the slots 0 and 1: which at 19, the reference at 20; an empty table at 28. */
    private static final byte[] A_UNION =
        Raw.hex("0c000000 0800 0c00 0700 0800 08000000 000000 01 08000000 0400 0400 04000000");

    private static Counted unions(boolean isRequired) {
        return Counted.with("table T{u:U" + (isRequired ? "(required)" : "") + ";}table E{}table F{}union U{E,F}root"
            + " T;");
    }

    private static void which() {
        Check.sentence(BUFFER, "A UNION: WHICH, if it is there, by FIELD (as above),");
        for (boolean isRequired : new boolean[] {false, true}) {
            Counted x = unions(isRequired);
            accepted(x, A_UNION);
            for (int number : new int[] {1, 2, 3, 12, 13, 0x8007, 0xffff}) {
                judged(x, Raw.with2(A_UNION, 8, number), 10, 8);
            }
            // It has one byte, and an alignment of 1.
            accepted(x, Raw.with(A_UNION, 8, 6, 18, 1));
            accepted(x, Raw.with(A_UNION, 8, 5, 17, 2));
            accepted(x, Raw.with(A_UNION, 8, 4, 16, 2));
            judged(x, Raw.with(A_UNION, 8, 11), 12, 10);
            judged(x, Raw.with(A_UNION, 8, 11, 23, 1), 2, 20);
        }
        Check.sentence(BUFFER, "then, of how many members there are, 12 UNION at its byte: it is above that.");
        for (boolean isRequired : new boolean[] {false, true}) {
            Counted x = unions(isRequired);
            accepted(x, Raw.with(A_UNION, 19, 2));
            for (int which : new int[] {3, 4, 127, 128, 129, 255}) {
                judged(x, Raw.with(A_UNION, 19, which), 12, 19);
                judged(x, Raw.with(A_UNION, 19, which, 10, 0), 12, 19);
                judged(x, Raw.with(A_UNION, 19, which, 10, 3), 12, 19);
            }
        }
        Counted y = Counted.with(Raw.repeat(8, "table E#{}") + "table T{u:U;}union U{E0,E1,E2,E3,E4,E5,E6,E7}root T;");
        accepted(y, Raw.with(A_UNION, 19, 8));
        judged(y, Raw.with(A_UNION, 19, 9), 12, 19);
    }

    private static void unionsWithout() {
        Check.sentence(BUFFER, "If WHICH is not there, or 0: 12 UNION at e of the second SLOT, if that is there;");
        for (boolean isRequired : new boolean[] {false, true}) {
            Counted x = unions(isRequired);
            judged(x, Raw.with(A_UNION, 19, 0), 12, 10);
            judged(x, Raw.with(A_UNION, 8, 0), 12, 10);
            // It is there by any number but 0.
            judged(x, Raw.with(A_UNION, 19, 0, 10, 1), 12, 10);
            judged(x, Raw.with(A_UNION, 8, 0, 10, 9), 12, 10);
            judged(x, Raw.with(A_UNION, 8, 0, 10, 0, 11, 1), 12, 10);
        }
        Check.sentence(BUFFER, "else 9 MISSING at p, if it is required.");
        for (boolean isRequired : new boolean[] {false, true}) {
            Counted x = unions(isRequired);
            int kind = isRequired ? 9 : 0;
            int place = isRequired ? 12 : 0;
            judged(x, Raw.with(A_UNION, 19, 0, 10, 0), kind, place);
            judged(x, Raw.with(A_UNION, 19, 0, 4, 6), kind, place);
            judged(x, Raw.with(A_UNION, 8, 0, 10, 0), kind, place);
            judged(x, Raw.with(A_UNION, 8, 0, 4, 6), kind, place);
            judged(x, Raw.with(A_UNION, 4, 4), kind, place);
        }
    }

    private static void unionsWith() {
        Check.sentence(BUFFER, "If it is one of them: 9 MISSING at p, if the second is not there;");
        for (boolean isRequired : new boolean[] {false, true}) {
            Counted x = unions(isRequired);
            judged(x, Raw.with(A_UNION, 10, 0), 9, 12);
            judged(x, Raw.with(A_UNION, 4, 6), 9, 12);
            judged(x, Raw.with(A_UNION, 10, 0, 19, 2), 9, 12);
        }
        Check.sentence(BUFFER, "then FIELD, ALIGN of that, its REFERENCE, its TABLE.");
        for (boolean isRequired : new boolean[] {false, true}) {
            Counted x = unions(isRequired);
            judged(x, Raw.with(A_UNION, 10, 1), 10, 10);
            judged(x, Raw.with(A_UNION, 10, 3), 10, 10);
            judged(x, Raw.with(A_UNION, 10, 9), 10, 10);
            judged(x, Raw.with(A_UNION, 10, 9, 6, 13), 3, 10);
            judged(x, Raw.with(A_UNION, 10, 7), 3, 10);
            judged(x, Raw.with(A_UNION, 10, 6, 20, 0), 3, 10);
            judged(x, Raw.with(A_UNION, 20, 0), 2, 20);
            judged(x, Raw.with(A_UNION, 20, 12), 2, 20);
            judged(x, Raw.with(A_UNION, 20, 6), 3, 20);
            judged(x, Raw.with(A_UNION, 28, 3), 6, 28);
            judged(x, Raw.with(A_UNION, 24, 3), 7, 24);
            judged(x, Raw.with(A_UNION, 26, 5), 8, 26);
        }
        // The table is that of the member.
        Counted y = Counted.with("table T{u:U;}table E{}table F{t:text(required);}union U{E,F}root T;");
        accepted(y, A_UNION);
        judged(y, Raw.with(A_UNION, 19, 2), 9, 28);
    }

    // ---- kinds 13 and 14, vectors

    private static void lengthsOfTexts() {
        Check.sentence(BUFFER, "A TEXT, behind its REFERENCE: 13 LENGTH at it: its bytes and the 0 go beyond n;");
        Counted x = Counted.with("table T{t:text;}root T;");
        accepted(x, A_TEXT);
        judged(x, Raw.sized(A_TEXT, 25), 13, 20);
        judged(x, Raw.sized(A_TEXT, 24), 13, 20);
        judged(x, Raw.with(A_TEXT, 20, 2), 13, 20);
        judged(x, Raw.with(A_TEXT, 20, 3), 13, 20);
        accepted(x, Raw.with(Raw.sized(A_TEXT, 27), 20, 2));
        // No bytes, with the 0 and without.
        accepted(x, Raw.with(Raw.sized(A_TEXT, 25), 20, 0, 24, 0));
        judged(x, Raw.with(Raw.sized(A_TEXT, 24), 20, 0), 13, 20);
        // What int wraps round.
        for (long m : new long[] {0xffffffffL, 0xfffffffeL, 0xfffffffbL, 0xfffffffaL, 0xffffffe7L, 0x80000000L,
            0x7fffffffL,
            0x7ffffff0L}) {
            judged(x, Raw.with4(A_TEXT, 20, m), 13, 20);
        }
        judged(x, Raw.with(A_TEXT, 21, 1), 13, 20);
        judged(x, Raw.with(A_TEXT, 22, 1), 13, 20);
        judged(x, Raw.with(A_TEXT, 23, 1), 13, 20);
    }

    private static void endsOfTexts() {
        Check.sentence(BUFFER, "14 END at what should be 0.");
        Counted x = Counted.with("table T{t:text;}root T;");
        judged(x, Raw.with(A_TEXT, 25, 1), 14, 25);
        judged(x, Raw.with(A_TEXT, 25, 255), 14, 25);
        judged(x, Raw.with(A_TEXT, 20, 0), 14, 24);
        accepted(x, Raw.with(A_TEXT, 24, 0));
        accepted(x, Raw.with(Raw.sized(A_TEXT, 27), 26, 9));
    }

    /** A vector at 20, whose elements are from 24 on. */
    private static final byte[] A_VECTOR =
        Raw.hex("0c000000 0600 0800 0400 0000 08000000 04000000 01000000 0100000000000000");

    private static void vectorsThatAreNotAligned() {
        Check.sentence(BUFFER, "A VECTOR, behind its REFERENCE: 3 ALIGN at it: what is behind the four bytes is at a"
            + " place that is not divisible by its elements' ALIGNMENT;");
        String[] types = {"bool", "short", "int", "float", "long", "ulong", "double", "S4", "S8"};
        int[] alignments = {1, 2, 4, 4, 8, 8, 8, 4, 8};
        for (int i = 0; i < types.length; i++) {
            Counted x = Counted.with("struct S4{a:int;}struct S8{a:bool;b:long;}table T{v:[" + types[i] + "];}root T;");
            byte[] empty = Raw.with(A_VECTOR, 20, 0, 24, 0);
            accepted(x, empty);
            // At 24, its elements from 28 on: also if there are none, and ahead of LENGTH.
            boolean isGood = alignments[i] < 8;
            judged(x, Raw.with(empty, 16, 8), isGood ? 0 : 3, isGood ? 0 : 24);
            judged(x, Raw.with(empty, 16, 8, 25, 1), isGood ? 13 : 3, 24);
        }
        for (String type : new String[] {"text", "T"}) {
            Counted x = Counted.with("table T{v:[" + type + "];}root T;");
            accepted(x, Raw.with(A_VECTOR, 16, 8, 24, 0));
        }
    }

    private static void lengthsOfVectors() {
        Check.sentence(BUFFER, "13 LENGTH at it: they go beyond n;");
        String[] types = {"bool", "short", "int", "double", "S3", "S12"};
        int[] bytes = {1, 2, 4, 8, 3, 12};
        for (int i = 0; i < types.length; i++) {
            Counted x = Counted.with("struct S3{a:byte;b:byte;c:byte;}struct S12{a:int;b:int;c:int;}"
                + "table T{v:[" + types[i] + "];}root T;");
            byte[] three = Raw.with(Raw.sized(A_VECTOR, 24 + 3 * bytes[i]), 20, 3);
            accepted(x, three);
            judged(x, Raw.sized(three, three.length - 1), 13, 20);
            judged(x, Raw.with(three, 20, 4), 13, 20);
            accepted(x, Raw.with(Raw.sized(three, 24), 20, 0));
            judged(x, Raw.with(Raw.sized(three, 24), 20, 1), 13, 20);
            // What int wraps round, to 0 or below it.
            for (long m : new long[] {0xffffffffL, 0x80000000L, 0x40000000L, 0x20000000L, 0x10000000L, 0x55555556L,
                0x15555556L,
                0x7fffffffL}) {
                judged(x, Raw.with4(three, 20, m), 13, 20);
            }
        }
        for (String type : new String[] {"text", "T"}) {
            Counted x = Counted.with("table T{v:[" + type + "];}root T;");
            // A reference has four bytes; it is judged behind that.
            byte[] two = Raw.with(A_VECTOR, 20, 2, 24, 0);
            judged(x, two, 2, 24);
            judged(x, Raw.sized(two, 31), 13, 20);
            judged(x, Raw.with4(two, 20, 0x40000000L), 13, 20);
        }
    }

    private static void elements() {
        Check.sentence(BUFFER, "then the elements, from the first on.");
        Counted x = Counted.with("table T{v:[text];}root T;");
        // Elements at 24, 28, 32; a text at 36.
        byte[] texts = Raw.hex("0c000000 0600 0800 0400 0000 08000000 04000000 03000000 0c000000 08000000 04000000"
            + " 01000000 4100");
        accepted(x, texts);
        judged(x, Raw.with(texts, 24, 0, 28, 0, 32, 0), 2, 24);
        judged(x, Raw.with(texts, 28, 9, 32, 0), 3, 28);
        judged(x, Raw.with(texts, 32, 0), 2, 32);
        judged(x, Raw.with(texts, 41, 1), 14, 41);
        judged(x, Raw.with(texts, 41, 1, 24, 0), 2, 24);
        judged(x, Raw.with(texts, 41, 1, 28, 0), 14, 41);
        accepted(x, Raw.with(texts, 20, 0, 24, 0));
    }
}
