/** "Terms" 1 and 2, sentence by sentence: the tape and the scalars, the schema with its faults and layout. */
public final class EdgesOfTapeAndSchemaTest {
    private static final String TAPE = "Terms 1";
    private static final String SCHEMA = "Terms 2";
    private static final String IAE = "IllegalArgumentException";
    private static final String ISE = "IllegalStateException";
    private static final String UOE = "UnsupportedOperationException";
    private static final String NAME_OF_16 = "a234567890123456";
    private static final String[] SCALARS = {"bool", "byte", "ubyte", "short", "ushort", "int", "uint", "long",
        "ulong", "float", "double"};

    public static void main(String[] args) {
        all();
        Check.end();
    }

    static void all() {
        theTapeIsFull();
        theTapeIsEmptied();
        numbers();
        scalars();
        values();
        noValues();
        lexemes();
        words();
        wholes();
        signsAndBlanks();
        keywords();
        schemas();
        definitions();
        fieldsOfStructs();
        fieldsOfTables();
        types();
        namesAhead();
        defaults();
        required();
        numbersOfDefinitions();
        atMost();
        placesOfFaults();
        firstAndLeast();
        whatIsNoLexeme();
        whatCantStand();
        namesTwice();
        oneMore();
        namesInStructs();
        wholesThatAreNoValues();
        notTaken();
        greatStructs();
        namesBehindAll();
        layout();
        bytesBetween();
        slots();
    }

    // ---- short ways

    private static void fault(String text, int kind, int place) {
        Counted x = new Counted();
        x.tape(text);
        Check.same("schema of " + text, IAE, x::schema);
        Check.same("kind in " + text, kind, () -> x.fault(0));
        Check.same("place in " + text, place, () -> x.fault(1));
    }

    /** The fault is at the first sign of the rest. */
    private static void faultAt(int kind, String ahead, String rest) {
        fault(ahead + rest, kind, ahead.length());
    }

    private static Counted good(String text, int tables) {
        Counted x = new Counted();
        x.tape(text);
        Check.same("schema of " + text, tables, x::schema);
        Check.same("kind in " + text, 0, () -> x.fault(0));
        Check.same("place in " + text, 0, () -> x.fault(1));
        return x;
    }

    // ---- Terms 1

    private static void theTapeIsFull() {
        Check.sentence(TAPE, "THE TAPE has at most 4000 bytes 0 .. 255;");
        Counted x = new Counted();
        x.tape(new byte[3980]);
        Check.same("the last that go on", 4000, () -> x.feed(1, 2, 3, 4, 5));
        Check.same("beyond", -1, () -> x.feed(1, 2, 3, 4, 5));
        Check.same("so many it has", 4000, () -> x.count(0));
        Counted y = Counted.with("table T{t:text;}root T;");
        int[] octets = {0, 1, 127, 128, 254, 255};
        y.tape(Check.bytesOf(octets));
        y.readFrom(y.table(0, 0, y.text()));
        y.into(0);
        for (int i = 0; i < octets.length; i++) {
            int k = i;
            Check.same("byte " + octets[i], octets[i], () -> y.read(k));
        }
    }

    private static void emptied(String what, Counted x, String tape, Object answer, Check.Call call) {
        x.tape(tape);
        Check.same(what + " finds the tape", tape.length(), () -> x.count(0));
        Check.same(what, answer, call);
        Check.same(what + " leaves the tape empty", 0, () -> x.count(0));
    }

    private static void theTapeIsEmptied() {
        Check.sentence(TAPE, "a call that reads it empties it, whatever it answers or throws.");
        Counted x = new Counted();
        emptied("find() without a schema", x, "a", -1, () -> x.find(false, 0));
        emptied("load(0) without a schema", x, "abcd", ISE, () -> x.load(0));
        emptied("schema() with a fault", x, "table", IAE, x::schema);
        emptied("schema()", x, "table T{a:int;}root T;", 1, x::schema);
        emptied("find()", x, "a", 0, () -> x.find(false, 0));
        emptied("find() of none", x, "b", -1, () -> x.find(false, 0));
        emptied("find() of no table", x, "a", -1, () -> x.find(false, 1));
        emptied("find() of no struct", x, "a", -1, () -> x.find(true, 0));
        emptied("find() of what is too long", x, "a2345678901234567", -1, () -> x.find(false, 0));
        emptied("load(0) that is wrong", x, "abc", false, () -> x.load(0));
        emptied("load(0)", x, "\b\0\0\0\4\0\4\0\4\0\0\0", true, () -> x.load(0));
        emptied("text()", x, "abc", 0, x::text);
        x.begin(0);
        emptied("text() while a table is open", x, "abc", ISE, x::text);
        x.clear();
        x.fillRow(4000);
        emptied("text() without room", x, "abc", UOE, x::text);
        Counted y = new Counted();
        for (int i = 0; i < 300; i++) {
            y.text();
        }
        emptied("text() behind 300 things", y, "abc", UOE, y::text);
    }

    private static void numbers() {
        Check.sentence(TAPE, "NUMBERS in buffers have the lowest byte first.");
        Counted x = Counted.with("table T{a:ulong;b:uint;c:ushort;}root T;");
        x.begin(0);
        x.set(0, 0x0102030405060708L);
        x.set(1, 0xf1f2f3f4L);
        x.set(2, 0xe1e2L);
        Check.same("finish", 40, () -> x.finish(x.ready()));
        Check.same("what is built", "14000000" + "000000000000" + "0a001400" + "0c0008000600" + "0a000000"
            + "0000e2e1" + "f4f3f2f1" + "0807060504030201", x::outHex);
        x.load(1);
        Check.same("a long is read", 0x0102030405060708L, () -> x.read(0));
        Check.same("an int is read", 0xf1f2f3f4L, () -> x.read(1));
        Check.same("a short is read", 0xe1e2L, () -> x.read(2));
    }

    private static void scalars() {
        Check.sentence(TAPE, "SCALARS, told by numbers, with how many bytes they have: 0 bool 1, 1 byte 1, 2 ubyte 1, 3"
            + " short 2, 4 ushort 2, 5 int 4, 6 uint 4, 7 long 8, 8 ulong 8, 9 float 4, 10 double 8.");
        int[] bytes = {1, 1, 1, 2, 2, 4, 4, 8, 8, 4, 8};
        for (int i = 0; i < bytes.length; i++) {
            int scalar = i;
            Counted x = Counted.with("struct S{a:" + SCALARS[i] + ";}table T{a:" + SCALARS[i] + ";}root T;");
            Check.same("number of " + SCALARS[i], scalar, () -> x.field(false, 0, 0, 1));
            Check.same("bytes of " + SCALARS[i], bytes[i], () -> x.size(5, 0));
            Check.same("vector of it", 0, () -> x.vector(0, scalar, 1, 0, 1, 0, 1, 0, 1, 0));
            Check.same("eight of it, and four", 8 * bytes[i] + 4, () -> x.count(2));
        }
        Counted y = new Counted();
        Check.same("there is no -1", IAE, () -> y.vector(0, -1));
        Check.same("there is no 11", IAE, () -> y.vector(0, 11));
    }

    /** Each value comes as a field, an element, in a struct, and by write(), and is told as it came. */
    private static void comesAndIsTold(int scalar, long... values) {
        String word = SCALARS[scalar];
        Counted x = Counted.with("struct S{a:byte;b:" + word + ";}table T{f:" + word + ";v:[" + word
            + "];s:S;}root T;");
        for (long v : values) {
            String what = word + " " + v;
            Check.same(what + " as an element", 0, () -> x.vector(0, scalar, v));
            x.begin(0);
            Check.same(what + " as a field", v != 0, () -> x.set(0, v));
            x.set(1, 0);
            Check.same(what + " in a struct", true, () -> x.set(2, 0, v));
            Check.same(what + " is accepted", true, () -> x.readFrom(x.ready()));
            Check.same(what + " of a field", v, () -> x.read(0));
            x.into(2);
            Check.same(what + " of a struct", v, () -> x.read(1));
            Check.same(what + " is written", true, () -> x.write(1, 1) && x.into(2) == 2 && x.write(1, v));
            x.into(2);
            Check.same(what + " that was written", v, () -> x.read(1));
            x.up();
            x.into(1);
            Check.same(what + " of an element", v, () -> x.read(0));
        }
    }

    private static void values() {
        Check.sentence(TAPE, "A value comes and is told as a long: of bool 0 or 1;");
        comesAndIsTold(0, 0, 1);
        Check.sentence(TAPE, "of byte, short, int, long with a sign, of ubyte, ushort, uint without one;");
        comesAndIsTold(1, -128, -1, 0, 127);
        comesAndIsTold(2, 0, 127, 128, 255);
        comesAndIsTold(3, -32768, -1, 0, 32767);
        comesAndIsTold(4, 0, 32767, 32768, 65535);
        comesAndIsTold(5, -2147483648L, -1, 0, 2147483647L);
        comesAndIsTold(6, 0, 2147483647L, 2147483648L, 4294967295L);
        comesAndIsTold(7, Long.MIN_VALUE, -1, 0, Long.MAX_VALUE);
        Check.sentence(TAPE, "of ulong its 64 bits, of double its 64 bits;");
        comesAndIsTold(8, Long.MIN_VALUE, -1, 0, Long.MAX_VALUE);
        comesAndIsTold(10, Long.MIN_VALUE, -1, 0, Long.MAX_VALUE);
        comesAndIsTold(10, Double.doubleToRawLongBits(-0.5), Double.doubleToRawLongBits(Double.NaN));
        Check.sentence(TAPE, "of float its 32 bits as an int's number.");
        comesAndIsTold(9, Integer.MIN_VALUE, -1, 0, Integer.MAX_VALUE);
        comesAndIsTold(9, Float.floatToRawIntBits(-0.5f), Float.floatToRawIntBits(Float.NaN));
    }

    private static void isNoValue(int scalar, long... values) {
        String word = SCALARS[scalar];
        Counted x = Counted.with("struct S{a:byte;b:" + word + ";}table T{f:" + word + ";s:S;}root T;");
        x.begin(0);
        x.set(1, 0, 1);
        x.readFrom(x.ready());
        for (long v : values) {
            String what = word + " " + v;
            Check.same(what + " as an element", IAE, () -> x.vector(0, scalar, v));
            Check.same(what + " behind good elements", IAE, () -> x.vector(0, scalar, 0, 1, v));
            Check.same(what + " in an element that is a struct", IAE, () -> x.vector(2, 0, 0, v));
            x.begin(0);
            Check.same(what + " as a field", IAE, () -> x.set(0, v));
            Check.same(what + " in a struct", IAE, () -> x.set(1, 0, v));
            x.clear();
            x.into(1);
            Check.same(what + " is not written", false, () -> x.write(1, v));
            Check.same(what + ": what stood stands", 1, () -> x.read(1));
            x.up();
        }
    }

    private static void noValues() {
        Check.sentence(TAPE, "A long that is none such is NO VALUE of the SCALAR.");
        isNoValue(0, -1, 2, 256, 257, 4294967296L, Long.MIN_VALUE);
        isNoValue(1, -129, 128, 255, 256, 4294967296L, Long.MIN_VALUE);
        isNoValue(2, -1, 256, 4294967296L, Long.MIN_VALUE);
        isNoValue(3, -32769, 32768, 65536, 4294967296L, Long.MIN_VALUE);
        isNoValue(4, -1, 65536, 4294967296L, Long.MIN_VALUE);
        isNoValue(5, -2147483649L, 2147483648L, 4294967296L, Long.MIN_VALUE, Long.MAX_VALUE);
        isNoValue(6, -1, 4294967296L, Long.MIN_VALUE, Long.MAX_VALUE);
        isNoValue(9, -2147483649L, 2147483648L, 4294967296L, Long.MIN_VALUE, Long.MAX_VALUE);
    }

    // ---- Terms 2: lexemes

    private static boolean isLetter(int b) {
        return b >= 'A' && b <= 'Z' || b >= 'a' && b <= 'z' || b == '_';
    }

    private static boolean isDigit(int b) {
        return b >= '0' && b <= '9';
    }

    private static boolean isBlank(int b) {
        return b == 32 || b == 9 || b == 10 || b == 13;
    }

    private static boolean isSign(int b) {
        return "{}[]():;=,".indexOf(b) >= 0;
    }

    private static void lexemes() {
        Check.sentence(SCHEMA, "A SCHEMA is a text.");
        good("table T{}root T;", 1);
        Check.sentence(SCHEMA, "LEXEMES, each as long as can be:");
        faultAt(2, "", "tableT{}root T;");
        faultAt(2, "table T{}", "rootT;");
        good("table tableT{intx:int;textx:text;}root tableT;", 1);
        faultAt(2, "table T{a:int=12", "ab;}root T;");
        faultAt(2, "table T{a:int=1", "-2;}root T;");
        faultAt(1, "table T{a:long=", "1234567890123456789;}root T;");
        faultAt(1, "table ", "a23456789012345678901234567890{}");
    }

    /** Each of the 256 bytes as the second sign of a name, and as its first one. */
    private static void words() {
        Check.sentence(SCHEMA, "WORDS (a letter A .. Z, a .. z or _, then letters, digits, _ ; at most 16 signs),");
        for (int b = 0; b < 256; b++) {
            char sign = (char) b;
            String second = "table T" + sign + "{}root T" + sign + ";";
            if (isLetter(b) || isDigit(b) || isBlank(b)) {
                good(second, 1);
            } else if (b == '{') {
                fault(second, 2, 8);
            } else {
                fault(second, isSign(b) ? 2 : 1, 7);
            }
            String first = "table " + sign + "1{}root " + sign + "1;";
            if (isLetter(b)) {
                good(first, 1);
            } else {
                fault(first, isDigit(b) || isBlank(b) || isSign(b) || b == '-' ? 2 : 1, isBlank(b) ? 7 : 6);
            }
        }
        good("table " + NAME_OF_16 + "{" + NAME_OF_16 + ":" + NAME_OF_16 + ";}root " + NAME_OF_16 + ";", 1);
        faultAt(1, "table ", NAME_OF_16 + "7{}root T;");
        faultAt(1, "table T{", NAME_OF_16 + "7:int;}root T;");
        faultAt(1, "table T{a:", NAME_OF_16 + "7;}root T;");
        faultAt(1, "union U{", NAME_OF_16 + "7}root T;");
        faultAt(1, "table T{}root ", NAME_OF_16 + "7;");
        faultAt(1, "table T{}root ", "________________7;");
        good("table _______________7{}root _______________7;", 1);
    }

    private static void wholes() {
        Check.sentence(SCHEMA, "WHOLE numbers (perhaps - right ahead, 1 to 18 digits),");
        Object[][] wholes = {{"0", 0L}, {"9", 9L}, {"-9", -9L}, {"-0", 0L}, {"123456789012345678", 123456789012345678L},
            {"999999999999999999", 999999999999999999L}, {"-999999999999999999", -999999999999999999L},
            {"000000000000000007", 7L}, {"-000000000000000007", -7L}};
        for (Object[] row : wholes) {
            Counted x = good("table T{a:long=" + row[0] + ";}root T;", 1);
            Check.same("default " + row[0], row[1], () -> x.standard(0, 0));
        }
        for (String none : new String[] {"-", "- 1", "--1", "-;", "-x", "1000000000000000000", "0000000000000000000",
            "0000000000000000001", "-1000000000000000000", "-0000000000000000001", "99999999999999999999999999",
                "+1"}) {
            faultAt(1, "table T{a:long=", none + ";}root T;");
        }
        faultAt(2, "table T{a:long=1", ":;}root T;");
    }

    private static void signsAndBlanks() {
        Check.sentence(SCHEMA, "the signs { } [ ] ( ) : ; = , .");
        for (int b = 0; b < 256; b++) {
            String text = "table T{}root T;" + (char) b;
            if (isBlank(b)) {
                good(text, 1);
            } else {
                fault(text, isSign(b) || isLetter(b) || isDigit(b) ? 2 : 1, 16);
            }
        }
        good("struct S{a:int;}table T{a:[text](required);b:int=1;}union U{T,V}table V{}root T;", 2);
        Check.sentence(SCHEMA, "Between them blanks (32, 9, 10, 13), and from // up to a 10 or the end.");
        good("table\tT\n{\ra : int\t= \r\n5 ; b : [ text ] ( required ) ; } root T ; ", 1);
        good(" \t\n\rtable T{}root T; \t\n\r", 1);
        good("//\ntable//x\nT//}\r;\n{//\n}//\n//\nroot T;//\n", 1);
        good("table T{}root T;//", 1);
        good("table T{}root T;// table $ \u00ff \0 / - 12345678901234567890", 1);
        good("table T{}root T;/////", 1);
        good("table T{a:int=5//\n;}root T;", 1);
        fault("table T{}//\rroot T;", 2, 19);
        fault("table T{}// root T;", 2, 19);
        faultAt(1, "table T{}", "/ /\nroot T;");
        faultAt(1, "table T{}", "/");
        faultAt(1, "table T{}root T;", "/\n/");
        faultAt(1, "table T{}//\n", "/x");
        for (int b : new int[] {0, 8, 11, 12, 14, 31, 33, 127, 133, 160, 255}) {
            faultAt(1, "table T{}", (char) b + "root T;");
        }
    }

    private static void keywords() {
        Check.sentence(SCHEMA, "KEYWORDS, which are no NAMES: struct table union root required text, and the words for"
            + " SCALARS.");
        String[] words = {"struct", "table", "union", "root", "required", "text"};
        for (int i = 0; i < words.length + SCALARS.length; i++) {
            String word = i < words.length ? words[i] : SCALARS[i - words.length];
            faultAt(2, "struct ", word + "{a:int;}");
            faultAt(2, "table ", word + "{}");
            faultAt(2, "union ", word + "{T}");
            faultAt(2, "struct S{", word + ":int;}");
            faultAt(2, "table T{", word + ":int;}");
            faultAt(2, "union U{", word + "}");
            faultAt(2, "table T{}root ", word + ";");
            String upper = word.substring(0, 1).toUpperCase() + word.substring(1);
            good("table " + upper + "{" + word + "s:int;}root " + upper + ";", 1);
        }
        for (String word : new String[] {"struct", "table", "union", "root", "required"}) {
            faultAt(2, "table T{a:", word + ";}");
            faultAt(2, "table T{a:[", word + "];}");
            faultAt(2, "struct S{a:", word + ";}");
        }
    }

    // ---- Terms 2: the grammar

    private static void schemas() {
        Check.sentence(SCHEMA, "SCHEMA: DEFINITIONS, then root NAME ; (of a TABLE).");
        faultAt(5, "root ", "T;");
        fault("", 2, 0);
        fault("table T{}", 2, 9);
        fault("table T{}root", 2, 13);
        fault("table T{}root T", 2, 15);
        faultAt(2, "table T{}root ", ";");
        faultAt(2, "table T{}root T", ",");
        faultAt(2, "table T{}root T;", ";");
        faultAt(2, "table T{}root T;", "root T;");
        faultAt(2, "table T{}root T;", "table V{}");
        faultAt(2, "table T{}", ";root T;");
        faultAt(2, "table T{}", "T;");
        faultAt(5, "struct S{a:int;}table T{}root ", "S;");
        faultAt(5, "table T{}union U{T}root ", "U;");
        good("table T{}root T;", 1);
    }

    private static void definitions() {
        Check.sentence(SCHEMA, "DEFINITION: struct NAME { FIELD of a STRUCT, one or more },");
        faultAt(2, "struct S{", "}table T{}root T;");
        good("struct S{a:int;}table T{}root T;", 1);
        good("struct S{a:int;b:int;}table T{}root T;", 1);
        faultAt(2, "struct ", "{a:int;}");
        faultAt(2, "struct S ", "a:int;}");
        faultAt(2, "struct S{a:int;", "table T{}root T;");
        faultAt(2, "struct S{a:int;}", ";table T{}root T;");
        Check.sentence(SCHEMA, "or table NAME { FIELDS of a TABLE, none or more },");
        good("table T{}root T;", 1);
        good("table T{a:int;}root T;", 1);
        good("table T{a:int;b:int;}root T;", 1);
        faultAt(2, "table ", "{}");
        faultAt(2, "table T", "}");
        faultAt(2, "table T{", ";}");
        faultAt(2, "table T{a:int;", ";}");
        faultAt(2, "table T{", "root T;");
        Check.sentence(SCHEMA, "or union NAME { NAME {, NAME} } (of TABLES).");
        faultAt(2, "union U{", "}table T{}root T;");
        good("union U{T}table T{}root T;", 1);
        good("union U{T,V}table T{}table V{}root T;", 2);
        faultAt(2, "union U{T,", "}");
        faultAt(2, "union U{", ",T}");
        faultAt(2, "union U{T,", ",V}");
        faultAt(2, "union U{T", ";}");
        faultAt(2, "union U{T ", "V}");
        faultAt(2, "union U{T", ":int;}");
        faultAt(2, "union ", "{T}");
        faultAt(2, "union U ", "T}");
        faultAt(5, "union U{", "S}struct S{a:int;}table T{}root T;");
        faultAt(5, "union U{", "U}table T{}root T;");
        faultAt(5, "union U{T,", "V}union V{T}table T{}root T;");
    }

    private static void fieldsOfStructs() {
        Check.sentence(SCHEMA, "FIELD of a STRUCT: NAME : a word for a SCALAR, or the NAME of a STRUCT that stands"
            + " ahead, ; .");
        for (String word : SCALARS) {
            good("struct S{a:" + word + ";}table T{}root T;", 1);
        }
        good("struct S{a:int;}struct R{a:S;}table T{}root T;", 1);
        faultAt(2, "struct S{a:", "text;}");
        faultAt(2, "struct S{a:", "[int];}");
        faultAt(2, "struct S{a:", "5;}");
        faultAt(2, "struct S{a:", ";}");
        faultAt(2, "struct S{a", ";}");
        faultAt(2, "struct S{a ", "int;}");
        faultAt(2, "struct S{", ":int;}");
        faultAt(2, "struct S{a:int", "}");
        faultAt(2, "struct S{a:int", ",b:int;}");
        faultAt(2, "struct S{a:int", "=0;}");
        faultAt(2, "struct S{a:int", "(required);}");
        faultAt(2, "struct R{a:int;}struct S{a:R", "(required);}");
    }

    private static void fieldsOfTables() {
        Check.sentence(SCHEMA, "FIELD of a TABLE: NAME : TYPE, perhaps = WHOLE, perhaps ( required ), ; .");
        good("table T{a:int;b:int=5;c:text;d:text(required);}root T;", 1);
        faultAt(2, "table T{", ":int;}");
        faultAt(2, "table T{a", ";}");
        faultAt(2, "table T{a ", "int;}");
        faultAt(2, "table T{a:", ";}");
        faultAt(2, "table T{a:int", "}");
        faultAt(2, "table T{a:int", ",b:int;}");
        faultAt(2, "table T{a:int=", ";}");
        faultAt(2, "table T{a:int=", "x;}");
        faultAt(2, "table T{a:int=", "=5;}");
        faultAt(2, "table T{a:int=5", "=5;}");
        faultAt(2, "table T{a:int ", "5;}");
        faultAt(2, "table T{a:text(", ");}");
        faultAt(2, "table T{a:text(", "Required);}");
        faultAt(2, "table T{a:text(required", ";}");
        faultAt(2, "table T{a:text(required ", "required);}");
        faultAt(2, "table T{a:text ", "required;}");
        faultAt(2, "table T{a:text(required)", "(required);}");
        faultAt(2, "table T{a:text(required)", "=5;}");
        faultAt(2, "table T{a:text", ");}");
    }

    private static void types() {
        Check.sentence(SCHEMA, "TYPE: a word for a SCALAR; text; the NAME of a STRUCT, TABLE or UNION; [ a word for a"
            + " SCALAR, or text, or the NAME of a STRUCT or TABLE ] (a VECTOR).");
        for (int i = 0; i < SCALARS.length; i++) {
            int scalar = i;
            Counted x = good("table T{a:" + SCALARS[i] + ";b:[" + SCALARS[i] + "];}root T;", 1);
            Check.same("a scalar", 0, () -> x.field(false, 0, 0, 0));
            Check.same("its number", scalar, () -> x.field(false, 0, 0, 1));
            Check.same("a vector", 5, () -> x.field(false, 0, 1, 0));
            Check.same("of scalars", 0, () -> x.field(false, 0, 1, 2));
            Check.same("of that number", scalar, () -> x.field(false, 0, 1, 1));
        }
        Counted y = good("table T{a:text;b:S;c:T;d:U;e:[text];f:[S];g:[T];}struct S{a:int;}union U{T}root T;", 1);
        int[] sorts = {1, 2, 3, 4, 5, 5, 5};
        int[] elements = {-1, -1, -1, -1, 1, 2, 3};
        for (int i = 0; i < sorts.length; i++) {
            int f = i;
            Check.same("sort of " + f, sorts[f], () -> y.field(false, 0, f, 0));
            Check.same("sort of its elements", elements[f], () -> y.field(false, 0, f, 2));
        }
        faultAt(5, "table T{a:[", "U];}union U{T}root T;");
        faultAt(2, "table T{a:[", "[int]];}root T;");
        faultAt(2, "table T{a:[", "];}root T;");
        faultAt(2, "table T{a:[int", ";}root T;");
        faultAt(2, "table T{a:[int ", "int];}root T;");
        faultAt(2, "table T{a:int", "];}root T;");
        faultAt(2, "table T{a:[", "5];}root T;");
    }

    private static void namesAhead() {
        Check.sentence(SCHEMA, "NAMES in a TABLE, a UNION, behind root may stand ahead of their DEFINITION.");
        Counted x = good("union U{V,T}table T{a:S;b:V;c:W;d:[S];e:[V];}union W{T}table V{}struct S{a:bool;}root V;", 2);
        Check.same("the root", 1, () -> x.size(3, 0));
        int[][] due = {{2, 0}, {3, 1}, {4, 1}, {5, 0}, {5, 1}};
        for (int i = 0; i < due.length; i++) {
            int f = i;
            Check.same("sort of " + f, due[f][0], () -> x.field(false, 0, f, 0));
            Check.same("number of " + f, due[f][1], () -> x.field(false, 0, f, 1));
        }
        faultAt(5, "struct S{a:", "R;}struct R{a:int;}table T{}root T;");
    }

    private static void defaults() {
        Check.sentence(SCHEMA, "= WHOLE is the DEFAULT of a SCALAR (0 without;");
        Counted x = good("table T{a:int=-5;b:int;c:bool=1;d:ulong=999999999999999999;e:bool;}root T;", 1);
        long[] due = {-5, 0, 1, 999999999999999999L, 0};
        for (int i = 0; i < due.length; i++) {
            int f = i;
            Check.same("default of " + f, due[f], () -> x.standard(0, f));
        }
        Check.sentence(SCHEMA, "of float, double it is 0 always and none may be told);");
        Counted y = good("table T{a:float;b:double;}root T;", 1);
        Check.same("of a float", 0, () -> y.standard(0, 0));
        Check.same("of a double", 0, () -> y.standard(0, 1));
        y.begin(0);
        Check.same("0.0f is the default", false, () -> y.set(0, 0));
        Check.same("0.0 is the default", false, () -> y.set(1, 0));
        y.clear();
        y.begin(0);
        Check.same("-0.0f is not", true, () -> y.set(0, Integer.MIN_VALUE));
        Check.same("-0.0 is not", true, () -> y.set(1, Long.MIN_VALUE));
        faultAt(7, "table T{a:float", "=0;}root T;");
        faultAt(7, "table T{a:double", "=0;}root T;");
    }

    private static void required() {
        Check.sentence(SCHEMA, "( required ) may stand at all but SCALARS.");
        Counted x = good("struct S{a:int;}union U{T}table T{a:text(required);b:S(required);c:T(required);d:U(required);"
            + "e:[int](required);f:[text](required);g:[S](required);h:[T](required);i:text;}root T;", 1);
        for (int i = 0; i < 9; i++) {
            int f = i;
            Check.same("field " + f, f < 8 ? 1 : 0, () -> x.field(false, 0, f, 4));
        }
        for (String word : SCALARS) {
            faultAt(7, "table T{a:" + word, "(required);}root T;");
        }
        faultAt(7, "table T{a:int=5", "(required);}root T;");
    }

    private static void numbersOfDefinitions() {
        Check.sentence(SCHEMA, "STRUCTS, TABLES, UNIONS have numbers from 0 on each, as they stand; so FIELDS of each,"
            + " from 0 on.");
        Counted x = good("table A{x:B;y:V;z:R;}union U{A}struct Q{a:int;b:int;}table B{}union V{B}struct"
            + " R{a:bool;}root B;",
            2);
        Check.same("B is table 1", 1, () -> x.field(false, 0, 0, 1));
        Check.same("V is union 1", 1, () -> x.field(false, 0, 1, 1));
        Check.same("R is struct 1", 1, () -> x.field(false, 0, 2, 1));
        Check.same("no table 2", -1, () -> x.size(7, 2));
        Check.same("x is field 0", 0, () -> x.find(false, 0, "x"));
        Check.same("z is field 2", 2, () -> x.find(false, 0, "z"));
        Check.same("no field 3", -1, () -> x.field(false, 0, 3, 0));
        Check.same("a is field 0", 0, () -> x.find(true, 0, "a"));
        Check.same("b is field 1", 1, () -> x.find(true, 0, "b"));
    }

    private static void atMost() {
        Check.sentence(SCHEMA, "At most 12 STRUCTS, 16 TABLES, 8 UNIONS; 12 FIELDS of a STRUCT, 16 of a TABLE, 8"
            + " members of a UNION.");
        String structs = Raw.repeat(11, "struct S#{a:int;}") + "struct S11{" + Raw.repeat(12, "f#:byte;") + "}";
        String tables = Raw.repeat(15, "table T#{}") + "table T15{" + Raw.repeat(16, "f#:byte;") + "}";
        String unions = Raw.repeat(7, "union U#{T0}") + "union U7{T0,T1,T2,T3,T4,T5,T6,T15}";
        Counted x = good(structs + tables + unions + "root T15;", 16);
        int[][] sizes = {{0, 0, 12}, {1, 0, 16}, {2, 0, 8}, {3, 0, 15}, {4, 11, 12}, {7, 15, 16}, {8, 15, 16}, {9, 7,
            8}};
        for (int[] row : sizes) {
            Check.same("size(" + row[0] + ", " + row[1] + ")", row[2], () -> x.size(row[0], row[1]));
        }
        Check.same("the last field of a struct", 11, () -> x.find(true, 11, "f11"));
        Check.same("its place", 11, () -> x.field(true, 11, 11, 3));
        Check.same("the last field of a table", 15, () -> x.find(false, 15, "f15"));
        Check.same("its slot", 15, () -> x.field(false, 15, 15, 3));
        Counted y = good("union U{T}table T{" + Raw.repeat(16, "f#:U;") + "}root T;", 1);
        Check.same("16 unions have 32 slots", 32, () -> y.size(8, 0));
        Check.same("the last of them has the 31st", 30, () -> y.field(false, 0, 15, 3));
        allOfThem();
        faultAt(4, structs + tables + unions + "struct ", "S{a:int;}root T0;");
        faultAt(4, structs + tables + unions + "table ", "T{}root T0;");
        faultAt(4, structs + tables + unions + "union ", "U{T0}root T0;");
    }

    /** As many as there may be of all, each with as many names as it may have, all ahead of their definitions. */
    private static void allOfThem() {
        StringBuilder text = new StringBuilder();
        for (int i = 0; i < 8; i++) {
            text.append("union U").append(i).append("{A,B,C,D,E,F,G,").append((char) ('H' + i)).append('}');
        }
        for (char name = 'A'; name < 'A' + 16; name++) {
            text.append("table ").append(name).append('{');
            for (int f = 0; f < 16; f++) {
                text.append((char) ('a' + f)).append(':').append(f < 8 ? "U" + f : String.valueOf((char) ('A'
                    + f))).append(';');
            }
            text.append('}');
        }
        for (int i = 0; i < 12; i++) {
            text.append("struct S").append(i).append('{');
            for (int f = 0; f < 12; f++) {
                text.append((char) ('a' + f)).append(":bool;");
            }
            text.append('}');
        }
        Counted x = good(text + "root P;", 16);
        Check.same("the root", 15, () -> x.size(3, 0));
        Check.same("slots", 24, () -> x.size(8, 15));
        Check.same("the last field of the last table", "3 15 23", () -> x.field(false, 15, 15, 0) + " "
            + x.field(false, 15, 15, 1) + " " + x.field(false, 15, 15, 3));
        Check.same("a union of the last table", "4 7 14", () -> x.field(false, 15, 7, 0) + " " + x.field(false, 15,
            7, 1) + " "
            + x.field(false, 15, 7, 3));
        x.table(14);
        x.begin(15);
        Check.same("the last member of the last union", true, () -> x.set(7, 8, 0));
        faultAt(5, text + "root ", "Q;");
        String wrong = text.toString().replace("p:P;}struct S0", "p:Q;}struct S0");
        fault(wrong + "root R;", 5, wrong.indexOf("Q;"));
    }

    // ---- Terms 2: faults

    private static void placesOfFaults() {
        Check.sentence(SCHEMA, "FAULTS, with a place (of a LEXEME's first sign; at the end the text's length):");
        faultAt(2, "table T{}root T; ", "wrong");
        faultAt(1, " \n// x\n\t", "$$$");
        faultAt(6, "table T{a:byte=", "-129;}root T;");
        fault("table T{}root T", 2, 15);
        fault("table T{}root T  ", 2, 17);
        fault("table T{}root T//;", 2, 18);
        fault(" ", 2, 1);
        fault("//", 2, 2);
        StringBuilder blanks = new StringBuilder("table T{}root T");
        while (blanks.length() < 4000) {
            blanks.append(' ');
        }
        fault(blanks.toString(), 2, 4000);
        blanks.setLength(3999);
        good(blanks + ";", 1);
        fault(blanks + "$", 1, 3999);
        fault(";".repeat(4000), 2, 0);
    }

    private static void firstAndLeast() {
        Check.sentence(SCHEMA, "the first LEXEME that is wrong, of one LEXEME the least kind:");
        faultAt(2, "table T{", "; $ }");
        faultAt(1, "table T{ ", "$ ; }");
        faultAt(3, "table T{}table ", "T{a:byte=500;}");
        faultAt(6, "table T{a:byte=", "500;a:int;}");
        faultAt(7, "table T{a:text", "=500;a:int;}");
        faultAt(5, "struct S{a:", "X;a:int;}");
        // 1, not 2: it can't stand there either.
        faultAt(1, "table T", "$");
        faultAt(1, "table T{a:int ", "12345678901234567890;}");
        // 2, not 4, 6 or 7: it can't stand there.
        faultAt(2, Raw.repeat(16, "table T#{}") + "table ", "int{}");
        faultAt(2, "table T{a:bool ", "2;}");
        faultAt(2, "struct S{a:float", "=0;}");
        faultAt(2, "struct S{a:int", "(required);}");
        // 3, not 4: it is one more, too.
        faultAt(3, Raw.repeat(12, "struct S#{a:int;}") + "struct ", "S0{a:int;}");
        faultAt(3, Raw.repeat(16, "table T#{}") + "table ", "T15{}");
        faultAt(3, Raw.repeat(8, "union U#{T}") + "union ", "U7{T}");
        faultAt(3, "struct S{" + Raw.repeat(12, "f#:int;") + "", "f0:int;}");
        faultAt(3, "table T{" + Raw.repeat(16, "f#:int;") + "", "f15:int;}");
        faultAt(3, "union U{" + Raw.repeat(7, "T#,") + "T7,", "T7}");
        // 2, not 8: the } can't stand there.
        String great = "struct A{" + Raw.repeat(8, "f#:long;") + "}struct B{a:A;b:A;c:bool;";
        faultAt(2, great + "d:bool", "}");
        faultAt(8, great, "}");
    }

    private static void whatIsNoLexeme() {
        Check.sentence(SCHEMA, "1 what begins none, or is too long;");
        faultAt(1, "", "$");
        faultAt(1, "", "\0");
        faultAt(1, "table T{}root T;", ".");
        faultAt(1, "table T{}root T; ", "\u00ff");
        faultAt(1, "table T{a:int=", "-");
        faultAt(1, "table ", NAME_OF_16 + "7");
        faultAt(1, "table T{a:int=", "1234567890123456789");
        faultAt(1, "table T{a:int=", "-1234567890123456789");
    }

    private static void whatCantStand() {
        Check.sentence(SCHEMA, "2 one that can't stand there by the grammar (also the end);");
        // At each lexeme of a good schema: the end, and a sign that stands nowhere there.
        String[] lexemes = {"struct", " S", "{", "a", ":", "int", ";", "}", "union", " U", "{", "T", ",", "V", "}",
            "table",
            " V", "{", "}", "table", " T", "{", "a", ":", "int", "=", "5", ";", "b", ":", "text", "(", "required",
                ")", ";",
            "c", ":", "[", "S", "]", ";", "}", "root", " T", ";"};
        StringBuilder ahead = new StringBuilder();
        for (String lexeme : lexemes) {
            fault(ahead.toString(), 2, ahead.length());
            if (lexeme.startsWith(" ")) {
                ahead.append(' ');
            }
            String wrong = lexeme.equals("]") ? ")" : "]";
            faultAt(2, ahead.toString(), wrong + lexeme.trim());
            ahead.append(lexeme.trim());
        }
        good(ahead.toString(), 2);
        faultAt(2, ahead.toString(), "]");
    }

    private static void namesTwice() {
        Check.sentence(SCHEMA, "3 a NAME that is there already: of DEFINITIONS (one row of names),");
        String[] definitions = {"struct # {a:int;}", "table # {}", "union # {V}"};
        for (String first : definitions) {
            for (String second : definitions) {
                String ahead = first.replace("#", "N") + second.substring(0, second.indexOf('#'));
                faultAt(3, ahead, "N{}");
            }
        }
        faultAt(3, "table " + NAME_OF_16 + "{}table ", NAME_OF_16 + "{}");
        good("table a23456789012345{}table " + NAME_OF_16 + "{}table A23456789012345{}root " + NAME_OF_16 + ";", 3);
        good("table a2345678{}table b2345678{}table a2345679{}table a{}root a;", 4);
        // Names of 16 signs that differ in one of them.
        String name = "abcdefghijklmnop";
        for (int i = 0; i < 16; i++) {
            String other = name.substring(0, i) + "_" + name.substring(i + 1);
            good("table " + name + "{" + name + ":int;" + other + ":int;}table " + other + "{}root " + other + ";", 2);
            faultAt(3, "table " + name + "{}table " + other + "{}table ", other + "{}");
        }
        Check.sentence(SCHEMA, "of FIELDS in one DEFINITION,");
        faultAt(3, "struct S{a:int;b:int;", "a:int;}");
        faultAt(3, "struct S{a:int;b:int;", "b:int;}");
        faultAt(3, "table T{a:int;b:int;", "a:int;}");
        faultAt(3, "table T{a:int;b:int;", "b:int;}");
        good("struct S{S:int;T:int;}struct R{S:S;}table T{S:S;T:T;U:U;}table V{S:int;T:int;}union U{T}root T;", 2);
        good("table T{a:int;A:int;a_:int;a1:int;}root T;", 1);
        Check.sentence(SCHEMA, "of members in one UNION;");
        faultAt(3, "union U{T,", "T}");
        faultAt(3, "union U{T,V,", "T}");
        good("union U{T,V}union W{T,V}table T{}table V{}root T;", 2);
    }

    private static void oneMore() {
        Check.sentence(SCHEMA, "4 one more than there may be, at its NAME;");
        faultAt(4, Raw.repeat(12, "struct S#{a:int;}") + "struct ", "S12{a:int;}table T{}root T;");
        faultAt(4, Raw.repeat(16, "table T#{}") + "table ", "T16{}root T0;");
        faultAt(4, Raw.repeat(8, "union U#{T}") + "union ", "U8{T}table T{}root T;");
        faultAt(4, "struct S{" + Raw.repeat(12, "f#:bool;"), "f12:bool;}table T{}root T;");
        faultAt(4, "table T{" + Raw.repeat(16, "f#:bool;"), "f16:bool;}root T;");
        faultAt(4, "union U{" + Raw.repeat(8, "T#,"), "T8}table T0{}root T0;");
        good(Raw.repeat(12, "struct S#{a:int;}") + "table T{}root T;", 1);
        good(Raw.repeat(16, "table T#{}") + "root T15;", 16);
        good(Raw.repeat(8, "union U#{T}") + "table T{}root T;", 1);
        good("struct S{" + Raw.repeat(12, "f#:bool;") + "}table T{}root T;", 1);
        good("table T{" + Raw.repeat(16, "f#:bool;") + "}root T;", 1);
        good("union U{" + Raw.repeat(7, "T#,") + "T7}" + Raw.repeat(8, "table T#{}") + "root T0;", 8);
    }

    private static void namesInStructs() {
        Check.sentence(SCHEMA, "5 in a STRUCT a NAME that is no STRUCT that stands ahead (also its own);");
        faultAt(5, "struct S{a:", "S;}");
        faultAt(5, "struct S{a:int;b:", "S;}");
        faultAt(5, "struct S{a:", "X;}");
        faultAt(5, "struct S{a:", "R;}struct R{a:int;}");
        faultAt(5, "table T{}struct S{a:", "T;}");
        faultAt(5, "union U{T}struct S{a:", "U;}");
        faultAt(5, "struct S{a:int;}struct R{a:S;b:", "a;}");
        // Not behind all that: a later lexeme that is wrong comes behind it.
        faultAt(5, "struct S{a:", "X$");
        good("struct S{a:int;}struct R{a:S;b:S;}struct Q{a:R;b:S;}table T{}root T;", 1);
    }

    private static void wholesThatAreNoValues() {
        Check.sentence(SCHEMA, "6 a WHOLE that is NO VALUE of the SCALAR (of ulong: below 0);");
        String[][] edges = {{"bool", "0", "1", "-1", "2"}, {"byte", "-128", "127", "-129", "128"},
            {"ubyte", "0", "255", "-1", "256"}, {"short", "-32768", "32767", "-32769", "32768"},
            {"ushort", "0", "65535", "-1", "65536"}, {"int", "-2147483648", "2147483647", "-2147483649", "2147483648"},
            {"uint", "0", "4294967295", "-1", "4294967296"}};
        for (String[] row : edges) {
            Counted x = good("table T{a:" + row[0] + "=" + row[1] + ";b:" + row[0] + "=" + row[2] + ";}root T;", 1);
            Check.same("lowest of " + row[0], row[1], () -> x.standard(0, 0));
            Check.same("highest of " + row[0], row[2], () -> x.standard(0, 1));
            faultAt(6, "table T{a:" + row[0] + "=", row[3] + ";}root T;");
            faultAt(6, "table T{a:" + row[0] + "=", row[4] + ";}root T;");
            faultAt(6, "table T{a:" + row[0] + "=", "999999999999999999;}root T;");
            faultAt(6, "table T{a:" + row[0] + "=", "-999999999999999999;}root T;");
        }
        faultAt(6, "table T{a:ulong=", "-1;}root T;");
        faultAt(6, "table T{a:ulong=", "-999999999999999999;}root T;");
        good("table T{a:ulong=0;b:ulong=-0;c:ulong=999999999999999999;d:long=-999999999999999999;}root T;", 1);
        // A number that int wraps round to one that is a value.
        faultAt(6, "table T{a:bool=", "4294967297;}root T;");
        faultAt(6, "table T{a:int=", "4294967296;}root T;");
        faultAt(6, "table T{a:ubyte=", "72057594037927936;}root T;");
    }

    private static void notTaken() {
        Check.sentence(SCHEMA, "7 = at what takes no DEFAULT;");
        for (String type : new String[] {"float", "double", "text", "[int]", "[text]", "[X]", "X", "T"}) {
            faultAt(7, "table T{a:" + type, "=0;}root T;");
        }
        for (String type : new String[] {"bool", "byte", "ubyte", "short", "ushort", "int", "uint", "long", "ulong"}) {
            good("table T{a:" + type + "=1;}root T;", 1);
        }
        Check.sentence(SCHEMA, "( at a SCALAR;");
        for (String type : SCALARS) {
            faultAt(7, "table T{a:" + type, "(required);}root T;");
            faultAt(7, "table T{a:" + type, "($");
        }
        faultAt(7, "table T{a:int=1", "(required);}root T;");
        good("table T{a:text(required);b:[int](required);}root T;", 1);
    }

    private static void greatStructs() {
        Check.sentence(SCHEMA, "8 a STRUCT of more than 128 bytes, at its } .");
        String half = "struct H{" + Raw.repeat(8, "f#:long;") + "}";
        Counted x = good(half + "struct S{a:H;b:H;}table T{}root T;", 1);
        Check.same("just 128", 128, () -> x.size(5, 1));
        faultAt(8, half + "struct S{a:H;b:H;c:bool;", "}table T{}root T;");
        faultAt(8, half + "struct S{a:bool;b:H;c:H;", "}table T{}root T;");
        // 121 bytes, made up to 128.
        Counted y = good("struct S7{" + Raw.repeat(7, "f#:long;") + "}" + half
            + "struct S{a:H;b:S7;c:bool;}table T{}root T;", 1);
        Check.same("made up to 128", 128, () -> y.size(5, 2));
        // Without any alignment: 128 and 129 bools.
        String bools = "struct A{" + Raw.repeat(12, "f#:bool;") + "}struct B{" + Raw.repeat(8, "f#:bool;") + "}";
        Counted z = good(bools + "struct S{" + Raw.repeat(10, "f#:A;") + "b:B;}table T{}root T;", 1);
        Check.same("128 bools", 128, () -> z.size(5, 2));
        faultAt(8, bools + "struct S{" + Raw.repeat(10, "f#:A;") + "b:B;c:bool;", "}table T{}root T;");
        // Far more: 12 times 128.
        faultAt(8, half + "struct S{a:H;b:H;}struct R{" + Raw.repeat(12, "f#:S;"), "}table T{}root T;");
        // Ahead of what is wrong behind it, and behind what is wrong ahead.
        faultAt(8, half + "struct S{a:H;b:H;c:H;", "}$");
        faultAt(5, half + "struct S{a:H;b:H;c:H;d:", "X;}");
    }

    private static void namesBehindAll() {
        Check.sentence(SCHEMA, "Behind all that, if there is none: 5 the first NAME in a TABLE's TYPES, a UNION, behind"
            + " root that is no DEFINITION,");
        faultAt(5, "table T{a:", "X;b:Y;}root Z;");
        faultAt(5, "table T{a:T;b:[", "X];}root Z;");
        faultAt(5, "table T{a:T;}union U{T,", "X}root Z;");
        faultAt(5, "table T{}root ", "Z;");
        faultAt(5, "union U{", "X}table T{a:Y;}root Z;");
        faultAt(5, "table T{a:", "Y;}union U{X}root Z;");
        faultAt(5, "table T{a:", "a;}root T;");
        // Any fault of the others comes first, wherever it stands.
        faultAt(2, "table T{a:X;}root T;", ";");
        fault("table T{a:X;}root T", 2, 19);
        faultAt(1, "table T{a:X;}root T;", "$");
        faultAt(3, "table T{a:X;}table ", "T{}root T;");
        faultAt(6, "table T{a:X;b:bool=", "2;}root T;");
        faultAt(7, "table T{a:X", "=0;}root T;");
        faultAt(5, "union U{X}table T{a:Y;}struct S{a:", "Z;}root T;");
        Check.sentence(SCHEMA, "or none that may stand there (in a UNION, behind root a TABLE; in [ ] a STRUCT or"
            + " TABLE).");
        faultAt(5, "struct S{a:int;}union U{T,", "S}table T{}root T;");
        faultAt(5, "union U{T,", "V}union V{T}table T{}root T;");
        faultAt(5, "union U{", "U}table T{}root T;");
        faultAt(5, "struct S{a:int;}root ", "S;");
        faultAt(5, "union U{T}table T{}root ", "U;");
        faultAt(5, "union U{T}table T{a:[", "U];}root T;");
        good("struct S{a:int;}union U{T}table T{a:[S];b:[T];c:S;d:T;e:U;}root T;", 1);
    }

    // ---- Terms 2: the layout, the slots

    private static void layout() {
        Check.sentence(SCHEMA, "LAYOUT of a STRUCT: FIELDS in order, each at the next place that is divisible by its"
            + " ALIGNMENT (of a SCALAR its bytes, of a STRUCT the greatest of its FIELDS');");
        Counted x = good("struct A{a:bool;b:short;c:bool;d:int;e:bool;f:long;}struct B{a:bool;}struct"
            + " C{a:byte;b:B;c:ushort;d:B;}"
            + "struct D{a:bool;b:C;c:bool;d:A;}table T{}root T;", 1);
        int[][] places = {{0, 2, 4, 8, 12, 16}, {0}, {0, 1, 2, 4}, {0, 2, 8, 16}};
        for (int i = 0; i < places.length; i++) {
            for (int j = 0; j < places[i].length; j++) {
                int n = i;
                int f = j;
                Check.same("place of " + f + " in " + n, places[n][f], () -> x.field(true, n, f, 3));
            }
        }
        int[] alignments = {8, 1, 2, 8};
        for (int i = 0; i < alignments.length; i++) {
            int n = i;
            Check.same("alignment of " + n, alignments[n], () -> x.size(6, n));
        }
        Check.sentence(SCHEMA, "its SIZE is then made up to be divisible by its own ALIGNMENT.");
        int[] sizes = {24, 1, 6, 40};
        for (int i = 0; i < sizes.length; i++) {
            int n = i;
            Check.same("size of " + n, sizes[n], () -> x.size(5, n));
        }
        String[] words = {"bool", "short", "int", "long", "float", "double"};
        int[] made = {2, 4, 8, 16, 8, 16};
        for (int i = 0; i < words.length; i++) {
            Counted y = good("struct S{a:" + words[i] + ";b:bool;}table T{}root T;", 1);
            Check.same(words[i] + " and a bool", made[i], () -> y.size(5, 0));
        }
    }

    private static void bytesBetween() {
        Check.sentence(SCHEMA, "(What lies between is 0 where it is built,");
        Counted x = Counted.with("struct S{a:byte;b:int;c:byte;}table T{s:S;b:byte;v:[S];}root T;");
        // The row's memory has had other bytes before.
        x.textOf(180);
        x.clear();
        x.vector(2, 0, -1, -1, -1, -2, -2, -2);
        x.begin(0);
        x.set(1, -3);
        x.set(0, -4, -4, -4);
        x.set(2, 0);
        x.finish(x.ready());
        // In a struct, ahead of b, ahead of the list.
        Check.same("what is built", "10000000" + "0000" + "0a001800" + "080017000400" + "0a000000" + "14000000"
            + "fc000000fcfffffffc000000" + "000000fd"
            + "02000000" + "ff000000ffffffffff000000" + "fe000000fefffffffe000000", x::outHex);
        Check.sentence(SCHEMA, "anything where it is judged.)");
        // The list at 4, the table at 12: s at 16.
        byte[] good = Raw.hex("0c000000 0600 1000 0400 0000 08000000 01 ffffff 02000000 03 eeeeee");
        Check.same("it is accepted", true, () -> x.load(good));
        x.into(0);
        Check.same("a", 1, () -> x.read(0));
        Check.same("b", 2, () -> x.read(1));
        Check.same("c", 3, () -> x.read(2));
    }

    private static void slots() {
        Check.sentence(SCHEMA, "SLOTS of a TABLE: each FIELD has the next one, from 0 on, a UNION's two: the first for"
            + " WHICH (a ubyte), the second for its TABLE.");
        Counted x = good("table T{a:U;b:int;c:U;d:U;e:text;}table E{}union U{T,E}root T;", 2);
        int[] due = {0, 2, 3, 5, 7};
        for (int i = 0; i < due.length; i++) {
            int f = i;
            Check.same("slot of " + f, due[f], () -> x.field(false, 0, f, 3));
        }
        Check.same("slots", 8, () -> x.size(8, 0));
        Check.same("none of an empty table", 0, () -> x.size(8, 1));
        x.table(1);
        x.begin(0);
        x.set(2, 2, 0);
        x.finish(x.ready());
        // E with its list (8 bytes), the reference, which, four bytes with 3 bytes 0 ahead, a list of 5 slots.
        Check.same("the fourth slot is which, the fifth its table", "14000000" + "0000" + "0e000c00"
            + "00000000000007000800" + "0e000000" + "00000002" + "08000000" + "0400040004000000", x::outHex);
    }
}
