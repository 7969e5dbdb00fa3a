import java.util.NoSuchElementException;

/**
 * Flat tables: a schema is read from a text; buffers are built from their end to their beginning,
 * equal lists of places written once; any bytes are judged against the schema, with the first thing
 * that is wrong; what was accepted is read, and written in places, where it stands, without a copy.
 */
public final class FlatTables {
    /** There is none. */
    public static final int NONE = -1;

    private static final int MOST_BYTES = 4000;
    private static final int MOST_VALUES = 600;
    private static final int MOST_THINGS = 300;
    private static final int MOST_STRUCTS = 12;
    private static final int MOST_TABLES = 16;
    private static final int MOST_UNIONS = 8;
    private static final int MOST_STRUCT_FIELDS = 12;
    private static final int MOST_TABLE_FIELDS = 16;
    private static final int MOST_MEMBERS = 8;
    private static final int MOST_STRUCT_BYTES = 128;
    private static final int MOST_WORD_SIGNS = 16;
    private static final int MOST_DIGITS = 18;
    private static final int MOST_DEPTH = 16;
    private static final int MOST_TABLES_COME_TO = 200;
    // 16 TABLES within one another, a VECTOR behind each, 12 STRUCTS within one another: 44.
    private static final int MOST_NODES = 64;

    private static final int SCALAR = 0;
    private static final int TEXT = 1;
    private static final int STRUCT = 2;
    private static final int TABLE = 3;
    private static final int UNION = 4;
    private static final int VECTOR = 5;
    // No sort of the document: a byte of a TEXT is read like a SCALAR, but it is none to be written.
    private static final int BYTE_OF_TEXT = 6;

    private static final int BOOL = 0;
    private static final int FLOAT = 9;
    private static final int DOUBLE = 10;
    private static final int ULONG = 8;
    private static final int SCALARS = 11;
    private static final int[] SCALAR_BYTES = {1, 1, 1, 2, 2, 4, 4, 8, 8, 4, 8};
    private static final long[] LOWEST = {0L, -128L, 0L, -32768L, 0L, -2147483648L, 0L,
        -9223372036854775808L, -9223372036854775808L, -2147483648L, -9223372036854775808L};
    private static final long[] HIGHEST = {1L, 127L, 255L, 32767L, 65535L, 2147483647L, 4294967295L,
        9223372036854775807L, 9223372036854775807L, 2147483647L, 9223372036854775807L};

    private static final int REFERENCE_BYTES = 4;

    private final Bytes tape = new Bytes();
    private final Bytes finished = new Bytes();
    private final Values values = new Values();
    private final Lexer lexer = new Lexer();
    private Schema current = new Schema();
    // A schema is read into the spare one, so that a fault leaves the current one alone.
    private Schema spare = new Schema();
    private final Builder builder = new Builder();
    private final Reader reader = new Reader();
    private int schemaFault = 0;
    private int schemaFaultPlace = 0;
    private int loadFault = 0;
    private int loadFaultPlace = 0;
    private int tablesComeTo = 0;

    public FlatTables() {
    }

    // ---- the tape

    public int feed(int a, int b, int c, int d, int e) {
        if (tape.length + 20 > MOST_BYTES) {
            return NONE;
        }
        feedOne(a);
        feedOne(b);
        feedOne(c);
        feedOne(d);
        feedOne(e);
        return tape.length;
    }

    private void feedOne(int number) {
        for (int shift = 24; shift >= 0; shift -= 8) {
            tape.putOctet(tape.length, number >>> shift);
            tape.length++;
        }
    }

    public boolean end(int n) {
        if (n < 0 || n > tape.length) {
            return false;
        }
        tape.length = n;
        return true;
    }

    // ---- the schema

    public int schema() throws IllegalArgumentException {
        lexer.takeAll(tape);
        tape.length = 0;
        Parser parser = new Parser(lexer, spare);
        boolean good = parser.parse();
        schemaFault = parser.fault;
        schemaFaultPlace = parser.faultPlace;
        if (!good) {
            throw new IllegalArgumentException("the schema has a fault");
        }
        Schema former = current;
        current = spare;
        spare = former;
        builder.empty();
        reader.drop();
        return current.tables.count;
    }

    public int fault(int what) {
        switch (what) {
            case 0:
                return schemaFault;
            case 1:
                return schemaFaultPlace;
            case 2:
                return loadFault;
            case 3:
                return loadFaultPlace;
            default:
                return NONE;
        }
    }

    public int size(int what, int n) {
        switch (what) {
            case 0:
                return current.structs.count;
            case 1:
                return current.tables.count;
            case 2:
                return current.unions.count;
            case 3:
                return current.root;
            case 4:
            case 5:
            case 6:
                return structSize(current.structs.at(n), what);
            case 7:
            case 8:
                return tableSize(current.tables.at(n), what);
            case 9:
                return memberCount(current.unions.at(n));
            default:
                return NONE;
        }
    }

    private static int structSize(Definition struct, int what) {
        if (struct == null) {
            return NONE;
        }
        if (what == 4) {
            return struct.fieldCount;
        }
        return what == 5 ? struct.bytes : struct.alignment;
    }

    private static int tableSize(Definition table, int what) {
        if (table == null) {
            return NONE;
        }
        return what == 7 ? table.fieldCount : table.slots;
    }

    private static int memberCount(Definition union) {
        return union == null ? NONE : union.fieldCount;
    }

    public int field(boolean isStruct, int n, int f, int what) {
        Field field = fieldOf(structOrTable(isStruct, n), f);
        if (field == null) {
            return NONE;
        }
        switch (what) {
            case 0:
                return field.sort;
            case 1:
                return field.number;
            case 2:
                return field.elementSort;
            case 3:
                return field.slot;
            case 4:
                return field.isRequired ? 1 : 0;
            default:
                return NONE;
        }
    }

    private Definition structOrTable(boolean isStruct, int n) {
        return isStruct ? current.structs.at(n) : current.tables.at(n);
    }

    private static Field fieldOf(Definition definition, int f) {
        return definition == null ? null : definition.fieldAt(f);
    }

    public long standard(int n, int f) {
        Field field = fieldOf(current.tables.at(n), f);
        return field == null ? 0L : field.standard;
    }

    public int find(boolean isStruct, int n) {
        int given = tape.length;
        tape.length = 0;
        Definition definition = structOrTable(isStruct, n);
        if (definition == null || given > MOST_WORD_SIGNS || tape.hasZero(given)) {
            return NONE;
        }
        return definition.fieldNamed(tape.packed(0, given), tape.packed(8, given));
    }

    // ---- building

    public int push(long v) {
        return values.add(v);
    }

    public int text() throws IllegalStateException, UnsupportedOperationException {
        int given = tape.length;
        tape.length = 0;
        if (builder.isOpen()) {
            throw new IllegalStateException("a table is open");
        }
        int thing = builder.addText(tape, given);
        if (thing == NONE) {
            throw new UnsupportedOperationException("no room for the text");
        }
        return thing;
    }

    public int vector(int sort, int n)
            throws IllegalStateException, IllegalArgumentException, UnsupportedOperationException {
        int given = values.takeAll();
        if (builder.isOpen()) {
            throw new IllegalStateException("a table is open");
        }
        int each = valuesOfElement(sort, n);
        if (each < 1 || given % each != 0 || !areElements(sort, n, given)) {
            throw new IllegalArgumentException("no elements of this sort");
        }
        // Of texts n doesn't matter, so all vectors of them must be one and the same sort of thing.
        int number = sort == TEXT ? 0 : n;
        int thing = builder.addVector(current, sort, number, values, given / each);
        if (thing == NONE) {
            throw new UnsupportedOperationException("no room for the vector");
        }
        return thing;
    }

    /** How many values an element wants; 0 if there is no such sort or number. */
    private int valuesOfElement(int sort, int n) {
        switch (sort) {
            case SCALAR:
                return isScalar(n) ? 1 : 0;
            case TEXT:
                return 1;
            case STRUCT:
                return leafCount(current.structs.at(n));
            case TABLE:
                return current.tables.at(n) == null ? 0 : 1;
            default:
                return 0;
        }
    }

    private static int leafCount(Definition struct) {
        return struct == null ? 0 : struct.leafCount;
    }

    private boolean areElements(int sort, int n, int given) {
        if (sort == STRUCT) {
            return areLeaves(current.structs.at(n), given);
        }
        int number = sort == TEXT ? 0 : n;
        for (int i = 0; i < given; i++) {
            long v = values.at(i);
            boolean good = sort == SCALAR ? isValue(n, v) : builder.isThing(v, sort, number, NONE);
            if (!good) {
                return false;
            }
        }
        return true;
    }

    /** Whether the values are those of the scalars of whole structs, one behind the other. */
    private boolean areLeaves(Definition struct, int given) {
        if (struct == null || struct.leafCount < 1) {
            return false;
        }
        for (int i = 0; i < given; i++) {
            if (!isValue(struct.leafScalar(i % struct.leafCount), values.at(i))) {
                return false;
            }
        }
        return true;
    }

    public void begin(int n) throws IllegalStateException, NoSuchElementException {
        if (builder.isOpen()) {
            throw new IllegalStateException("a table is open");
        }
        if (current.tables.at(n) == null) {
            throw new NoSuchElementException("no such table");
        }
        builder.open(n);
    }

    public boolean set(int f) throws IllegalStateException, NoSuchElementException,
            IllegalArgumentException, UnsupportedOperationException {
        int given = values.takeAll();
        if (!builder.isOpen()) {
            throw new IllegalStateException("no table is open");
        }
        Field field = fieldOf(current.tables.at(builder.openTable), f);
        if (field == null) {
            throw new NoSuchElementException("no such field");
        }
        if (builder.isSet(f) || !suits(field, given)) {
            throw new IllegalArgumentException("set already, or not by these values");
        }
        if (field.sort == SCALAR && values.at(0) == field.standard) {
            builder.markSet(f);
            return false;
        }
        if (!builder.putField(current, field, values)) {
            throw new UnsupportedOperationException("no room for the field");
        }
        builder.markSet(f);
        return true;
    }

    private boolean suits(Field field, int given) {
        switch (field.sort) {
            case SCALAR:
                return given == 1 && isValue(field.number, values.at(0));
            case STRUCT:
                return given == leafCount(current.structs.at(field.number))
                    && areLeaves(current.structs.at(field.number), given);
            case UNION:
                return given == 2 && suitsUnion(current.unions.at(field.number));
            default:
                return given == 1
                    && builder.isThing(values.at(0), field.sort, field.number, field.elementSort);
        }
    }

    private boolean suitsUnion(Definition union) {
        long which = values.at(0);
        if (union == null || which < 1 || which > union.fieldCount) {
            return false;
        }
        Field member = union.fieldAt((int) which - 1);
        return member != null && builder.isThing(values.at(1), TABLE, member.number, NONE);
    }

    public int ready() throws IllegalStateException, UnsupportedOperationException {
        if (!builder.isOpen() || !builder.hasRequired(current.tables.at(builder.openTable))) {
            throw new IllegalStateException("no table is open, or a required field was not set");
        }
        int thing = builder.close();
        if (thing == NONE) {
            throw new UnsupportedOperationException("no room for the table");
        }
        return thing;
    }

    public int finish(int thing)
            throws IllegalStateException, IllegalArgumentException, UnsupportedOperationException {
        if (builder.isOpen()) {
            throw new IllegalStateException("a table is open");
        }
        if (!builder.isThing(thing, TABLE, current.root, NONE)) {
            throw new IllegalArgumentException("no table of the root's number");
        }
        if (!builder.moveTo(finished, thing)) {
            throw new UnsupportedOperationException("no room for the root's reference");
        }
        return finished.length;
    }

    public int clear() {
        int had = builder.length;
        builder.empty();
        return had;
    }

    public int out(int i) {
        return finished.octetOrNone(i);
    }

    public int count(int what) {
        switch (what) {
            case 0:
                return tape.length;
            case 1:
                return values.count;
            case 2:
                return builder.length;
            case 3:
                return builder.thingCount;
            case 4:
                return builder.openTable;
            case 5:
                return finished.length;
            case 6:
                return reader.buffer.length;
            case 7:
                return builder.listCount;
            case 8:
                return tablesComeTo;
            default:
                return NONE;
        }
    }

    // ---- judging, reading

    public boolean load(int from) throws IllegalArgumentException, IllegalStateException {
        if (from != 0 && from != 1) {
            throw new IllegalArgumentException("neither the tape nor the out");
        }
        Bytes judged = from == 0 ? tape : finished;
        int given = judged.length;
        if (from == 0) {
            tape.length = 0;
        }
        if (current.root == NONE) {
            throw new IllegalStateException("there is no schema");
        }
        Judge judge = new Judge(current, judged, given);
        boolean good = judge.accepts();
        loadFault = judge.fault;
        loadFaultPlace = judge.faultPlace;
        if (good) {
            tablesComeTo = judge.tablesComeTo;
            reader.accept(judged, given, current.root);
        }
        return good;
    }

    public int node(int what) {
        return reader.tell(current, what);
    }

    public int has(int k) {
        if (!reader.locate(current, k)) {
            return NONE;
        }
        return reader.partPlace == NONE ? 0 : 1;
    }

    public long read(int k) throws NoSuchElementException {
        if (!reader.locate(current, k) || !reader.isPartReadable()) {
            throw new NoSuchElementException("no part with a value");
        }
        return reader.partValue();
    }

    public int into(int k) {
        if (!reader.locate(current, k) || reader.partPlace == NONE) {
            return NONE;
        }
        return reader.enterPart();
    }

    public int up() {
        return reader.leave();
    }

    public boolean write(int k, long v) {
        if (!reader.locate(current, k) || reader.partSort != SCALAR || reader.partPlace == NONE
                || !isValue(reader.partNumber, v)) {
            return false;
        }
        Bytes buffer = reader.buffer;
        int place = reader.partPlace;
        int bytes = scalarBytes(reader.partNumber);
        long former = buffer.number(place, bytes);
        buffer.putNumber(place, bytes, v);
        // What was accepted may lie one over the other, so a scalar may be a part of all else too.
        Judge judge = new Judge(current, buffer, buffer.length);
        if (!judge.accepts()) {
            buffer.putNumber(place, bytes, former);
            return false;
        }
        reader.goToRoot(current.root);
        return true;
    }

    public int byteAt(int i) {
        return reader.buffer.octetOrNone(i);
    }

    // ---- scalars

    private static boolean isScalar(int scalar) {
        return scalar >= 0 && scalar < SCALARS;
    }

    private static int scalarBytes(int scalar) {
        return scalar >= 0 && scalar < SCALAR_BYTES.length ? SCALAR_BYTES[scalar] : 1;
    }

    private static boolean isValue(int scalar, long v) {
        return isScalar(scalar) && LOWEST[scalar] <= v && v <= HIGHEST[scalar];
    }

    private static boolean hasSign(int scalar) {
        return isScalar(scalar) && LOWEST[scalar] < 0;
    }

    /** The next number from n on that an alignment (1, 2, 4 or 8) divides. */
    private static int roundUp(int n, int alignment) {
        return (n + alignment - 1) & -alignment;
    }

    private static boolean isAligned(int n, int alignment) {
        return (n & (alignment - 1)) == 0;
    }

    /** A row of at most 4000 bytes; numbers in it have the lowest byte first. */
    private static final class Bytes {
        private final byte[] cells = new byte[MOST_BYTES];
        int length = 0;

        int octet(int i) {
            return i >= 0 && i < cells.length ? cells[i] & 255 : 0;
        }

        int octetOrNone(int i) {
            return i >= 0 && i < length ? octet(i) : NONE;
        }

        void putOctet(int i, int octet) {
            if (i >= 0 && i < cells.length) {
                cells[i] = (byte) octet;
            }
        }

        long number(int i, int bytes) {
            if (i < 0 || i > cells.length - bytes) {
                return 0;
            }
            long number = 0;
            for (int j = i + bytes - 1; j >= i; j--) {
                number = number << 8 | cells[j] & 255;
            }
            return number;
        }

        void putNumber(int i, int bytes, long number) {
            for (int j = 0; j < bytes; j++) {
                putOctet(i + j, (int) (number >>> (8 * j)));
            }
        }

        long scalar(int i, int scalar) {
            int bytes = scalarBytes(scalar);
            int unused = 64 - 8 * bytes;
            long number = number(i, bytes);
            return hasSign(scalar) ? number << unused >> unused : number;
        }

        /** n bytes of another row, from a place on, come to a place of this one. */
        void copy(Bytes from, int first, int to, int n) {
            for (int i = 0; i < n; i++) {
                putOctet(to + i, from.octet(first + i));
            }
        }

        boolean hasZero(int n) {
            for (int i = 0; i < n; i++) {
                if (octet(i) == 0) {
                    return true;
                }
            }
            return false;
        }

        /** Up to eight signs from a place on, ahead of an end, as one number: so names are compared. */
        long packed(int first, int end) {
            long signs = 0;
            for (int i = first; i < end && i < first + 8; i++) {
                signs = signs << 8 | octet(i);
            }
            return signs;
        }

        /** Where the reference at q leads to; it must have been judged. */
        int behind(int q) {
            return (int) (q + number(q, REFERENCE_BYTES));
        }

        /** Where the list of the table at p stands: anywhere, before it was judged. */
        long listOf(int p) {
            return (long) p - (int) number(p, 4);
        }

        /** How far from its table on a slot of a list is stored; 0 if it is not there. */
        int slotNumber(int list, int slot) {
            int ahead = 4 + 2 * slot;
            return ahead + 2 > number(list, 2) ? 0 : (int) number(list + ahead, 2);
        }

        /** Where a slot of the table at p is stored, NONE if it is not there. */
        int storedAt(int p, int slot) {
            int number = slotNumber((int) listOf(p), slot);
            return number == 0 ? NONE : p + number;
        }
    }

    /** The values that were pushed. */
    private static final class Values {
        private final long[] cells = new long[MOST_VALUES];
        int count = 0;

        int add(long v) {
            if (count < 0 || count >= cells.length) {
                return NONE;
            }
            cells[count] = v;
            count++;
            return count;
        }

        /** They can still be read until the next one is added. */
        int takeAll() {
            int given = count;
            count = 0;
            return given;
        }

        long at(int i) {
            return i >= 0 && i < cells.length ? cells[i] : 0L;
        }
    }

    /** A field of a struct or table, a member of a union, or what stands behind root. */
    private static final class Field {
        long nameHead = 0;
        long nameTail = 0;
        // The lexeme with the name of its type, if that has one.
        int typeLexeme = NONE;
        int sort = NONE;
        int number = 0;
        int elementSort = NONE;
        // Of a struct's field its place in the struct.
        int slot = 0;
        boolean isRequired = false;
        long standard = 0;

        void restart(long head, long tail) {
            nameHead = head;
            nameTail = tail;
            typeLexeme = NONE;
            sort = NONE;
            number = 0;
            elementSort = NONE;
            slot = 0;
            isRequired = false;
            standard = 0;
        }
    }

    /** A struct, a table or a union. */
    private static final class Definition {
        final int sort;
        final int number;
        private final Field[] fields;
        int fieldCount = 0;
        long nameHead = 0;
        long nameTail = 0;
        int bytes = 0;
        int alignment = 1;
        int slots = 0;
        // A struct's scalars, with those of structs within it where they stand.
        private final int[] leafScalars;
        private final int[] leafPlaces;
        int leafCount = 0;

        Definition(int sort, int number, int mostFields) {
            this.sort = sort;
            this.number = number;
            fields = new Field[mostFields];
            for (int i = 0; i < fields.length; i++) {
                fields[i] = new Field();
            }
            int mostLeaves = sort == STRUCT ? MOST_STRUCT_BYTES : 0;
            leafScalars = new int[mostLeaves];
            leafPlaces = new int[mostLeaves];
        }

        void restart(long head, long tail) {
            nameHead = head;
            nameTail = tail;
            fieldCount = 0;
            bytes = 0;
            alignment = 1;
            slots = 0;
            leafCount = 0;
        }

        Field fieldAt(int f) {
            return f >= 0 && f < fieldCount && f < fields.length ? fields[f] : null;
        }

        int fieldNamed(long head, long tail) {
            for (int f = 0; f < fieldCount && f < fields.length; f++) {
                if (fields[f].nameHead == head && fields[f].nameTail == tail) {
                    return f;
                }
            }
            return NONE;
        }

        /** The new field; null if it is one more than there may be. */
        Field addField(long head, long tail) {
            if (fieldCount < 0 || fieldCount >= fields.length) {
                return null;
            }
            Field field = fields[fieldCount];
            field.restart(head, tail);
            fieldCount++;
            return field;
        }

        int leafScalar(int i) {
            return i >= 0 && i < leafScalars.length ? leafScalars[i] : NONE;
        }

        int leafPlace(int i) {
            return i >= 0 && i < leafPlaces.length ? leafPlaces[i] : 0;
        }

        void addLeaf(int scalar, int place) {
            if (leafCount >= 0 && leafCount < leafScalars.length && leafCount < leafPlaces.length) {
                leafScalars[leafCount] = scalar;
                leafPlaces[leafCount] = place;
                leafCount++;
            }
        }

        void addLeavesOf(Definition inner, int place) {
            for (int i = 0; i < inner.leafCount; i++) {
                addLeaf(inner.leafScalar(i), place + inner.leafPlace(i));
            }
        }

        void numberSlots() {
            slots = 0;
            for (int f = 0; f < fieldCount && f < fields.length; f++) {
                fields[f].slot = slots;
                slots += fields[f].sort == UNION ? 2 : 1;
            }
        }
    }

    /** The definitions of one sort. */
    private static final class Group {
        private final Definition[] rows;
        int count = 0;

        Group(int sort, int most, int mostFields) {
            rows = new Definition[most];
            for (int i = 0; i < rows.length; i++) {
                rows[i] = new Definition(sort, i, mostFields);
            }
        }

        Definition at(int n) {
            return n >= 0 && n < count && n < rows.length ? rows[n] : null;
        }

        /** The new definition; null if it is one more than there may be. */
        Definition add(long head, long tail) {
            if (count < 0 || count >= rows.length) {
                return null;
            }
            Definition made = rows[count];
            made.restart(head, tail);
            count++;
            return made;
        }
    }

    /** A schema; there is none without a root. */
    private static final class Schema {
        final Group structs = new Group(STRUCT, MOST_STRUCTS, MOST_STRUCT_FIELDS);
        final Group tables = new Group(TABLE, MOST_TABLES, MOST_TABLE_FIELDS);
        final Group unions = new Group(UNION, MOST_UNIONS, MOST_MEMBERS);
        // All of them as they stand, as their names are one row.
        private final Definition[] definitions = new Definition[MOST_STRUCTS + MOST_TABLES + MOST_UNIONS];
        private int definitionCount = 0;
        int root = NONE;

        void restart() {
            structs.count = 0;
            tables.count = 0;
            unions.count = 0;
            definitionCount = 0;
            root = NONE;
        }

        /** The new definition; null if it is one more than there may be. */
        Definition addTo(Group group, long head, long tail) {
            if (definitionCount < 0 || definitionCount >= definitions.length) {
                return null;
            }
            Definition made = group.add(head, tail);
            if (made != null) {
                definitions[definitionCount] = made;
                definitionCount++;
            }
            return made;
        }

        Definition named(long head, long tail) {
            for (int i = 0; i < definitionCount && i < definitions.length; i++) {
                Definition known = definitions[i];
                if (known != null && known.nameHead == head && known.nameTail == tail) {
                    return known;
                }
            }
            return null;
        }

        /** Of what is stored of a sort: scalars and structs as they are, of others a reference. */
        int bytesOf(int sort, int number) {
            if (sort == SCALAR) {
                return scalarBytes(number);
            }
            Definition struct = sort == STRUCT ? structs.at(number) : null;
            return struct == null ? REFERENCE_BYTES : struct.bytes;
        }

        int alignmentOf(int sort, int number) {
            if (sort == SCALAR) {
                return scalarBytes(number);
            }
            Definition struct = sort == STRUCT ? structs.at(number) : null;
            return struct == null ? REFERENCE_BYTES : struct.alignment;
        }
    }

    /**
     * The lexemes of a text, up to its end or to the first that is none. The kind of a sign is the
     * sign itself.
     */
    private static final class Lexer {
        static final int END = 0;
        static final int BAD = 1;
        static final int NAME = 2;
        static final int WHOLE = 3;
        static final int SCALAR_WORD = 4;
        static final int TEXT_WORD = 5;
        static final int STRUCT_WORD = 6;
        static final int TABLE_WORD = 7;
        static final int UNION_WORD = 8;
        static final int ROOT_WORD = 9;
        static final int REQUIRED_WORD = 10;

        private static final String SIGNS = "{}[]():;=,";
        private static final int LINE_END = 10;

        private final int[] kinds = new int[MOST_BYTES + 1];
        private final int[] places = new int[MOST_BYTES + 1];
        // Of a name its first eight signs, of a whole its number, of a scalar's word the scalar.
        private final long[] heads = new long[MOST_BYTES + 1];
        // Of a name its other signs.
        private final long[] tails = new long[MOST_BYTES + 1];
        private int count = 0;
        private int next = 0;

        int kind(int i) {
            return i >= 0 && i < count && i < kinds.length ? kinds[i] : END;
        }

        int place(int i) {
            return i >= 0 && i < count && i < places.length ? places[i] : 0;
        }

        long head(int i) {
            return i >= 0 && i < count && i < heads.length ? heads[i] : 0;
        }

        long tail(int i) {
            return i >= 0 && i < count && i < tails.length ? tails[i] : 0;
        }

        void takeAll(Bytes text) {
            count = 0;
            next = 0;
            boolean isLast = false;
            for (int i = 0; !isLast && i <= MOST_BYTES; i++) {
                int kind = takeOne(text);
                isLast = kind == END || kind == BAD;
            }
        }

        private int takeOne(Bytes text) {
            skipBlanks(text);
            int sign = text.octetOrNone(next);
            if (sign == NONE) {
                return keep(END, next, 0, 0);
            }
            if (isLetter(sign)) {
                return takeWord(text);
            }
            if (isDigit(sign) || sign == '-') {
                return takeWhole(text);
            }
            next++;
            return keep(SIGNS.indexOf((char) sign) >= 0 ? sign : BAD, next - 1, 0, 0);
        }

        private int keep(int kind, int place, long head, long tail) {
            if (count >= 0 && count < kinds.length) {
                kinds[count] = kind;
                places[count] = place;
                heads[count] = head;
                tails[count] = tail;
                count++;
            }
            return kind;
        }

        private void skipBlanks(Bytes text) {
            boolean isRemark = false;
            for (; next < text.length; next++) {
                int sign = text.octet(next);
                if (isRemark) {
                    isRemark = sign != LINE_END;
                } else if (sign == '/' && text.octetOrNone(next + 1) == '/') {
                    isRemark = true;
                } else if (!isBlank(sign)) {
                    return;
                }
            }
        }

        private int takeWord(Bytes text) {
            int first = next;
            while (next < text.length && isWordSign(text.octet(next))) {
                next++;
            }
            if (next - first > MOST_WORD_SIGNS) {
                return keep(BAD, first, 0, 0);
            }
            for (int i = 0; i < SCALARS; i++) {
                if (isWord(text, first, scalarWord(i))) {
                    return keep(SCALAR_WORD, first, i, 0);
                }
            }
            for (int i = TEXT_WORD; i <= REQUIRED_WORD; i++) {
                if (isWord(text, first, keyword(i))) {
                    return keep(i, first, 0, 0);
                }
            }
            return keep(NAME, first, text.packed(first, next), text.packed(first + 8, next));
        }

        /** Whether what stands from first up to the next place is this word. */
        private boolean isWord(Bytes text, int first, String word) {
            int signs = word.length();
            if (signs != next - first) {
                return false;
            }
            for (int i = 0; i < signs; i++) {
                if (word.charAt(i) != text.octet(first + i)) {
                    return false;
                }
            }
            return true;
        }

        private int takeWhole(Bytes text) {
            int first = next;
            boolean isBelow = text.octet(first) == '-';
            if (isBelow) {
                next++;
            }
            int firstDigit = next;
            long whole = 0;
            while (next < text.length && isDigit(text.octet(next))) {
                whole = whole * 10 + (text.octet(next) - '0');
                next++;
            }
            int digits = next - firstDigit;
            boolean isWhole = digits >= 1 && digits <= MOST_DIGITS;
            return keep(isWhole ? WHOLE : BAD, first, isBelow ? -whole : whole, 0);
        }

        private static boolean isBlank(int sign) {
            return sign == 32 || sign == 9 || sign == LINE_END || sign == 13;
        }

        private static boolean isLetter(int sign) {
            return sign >= 'A' && sign <= 'Z' || sign >= 'a' && sign <= 'z' || sign == '_';
        }

        private static boolean isDigit(int sign) {
            return sign >= '0' && sign <= '9';
        }

        private static boolean isWordSign(int sign) {
            return isLetter(sign) || isDigit(sign);
        }

        private static String scalarWord(int scalar) {
            switch (scalar) {
                case 0:
                    return "bool";
                case 1:
                    return "byte";
                case 2:
                    return "ubyte";
                case 3:
                    return "short";
                case 4:
                    return "ushort";
                case 5:
                    return "int";
                case 6:
                    return "uint";
                case 7:
                    return "long";
                case 8:
                    return "ulong";
                case 9:
                    return "float";
                default:
                    return "double";
            }
        }

        private static String keyword(int kind) {
            switch (kind) {
                case TEXT_WORD:
                    return "text";
                case STRUCT_WORD:
                    return "struct";
                case TABLE_WORD:
                    return "table";
                case UNION_WORD:
                    return "union";
                case ROOT_WORD:
                    return "root";
                default:
                    return "required";
            }
        }
    }

    /** Reads lexemes into a schema; each of its steps answers whether there was no fault. */
    private static final class Parser {
        private static final int NO_LEXEME = 1;
        private static final int GRAMMAR = 2;
        private static final int TWICE = 3;
        private static final int ONE_MORE = 4;
        private static final int WRONG_NAME = 5;
        private static final int NO_VALUE = 6;
        private static final int NOT_TAKEN = 7;
        private static final int TOO_GREAT = 8;

        private static final int MOST_AWAITED =
            MOST_TABLES * MOST_TABLE_FIELDS + MOST_UNIONS * MOST_MEMBERS + 1;

        private final Lexer lexer;
        private final Schema target;
        // In a table, in a union, behind root a name may stand ahead of its definition.
        private final Field[] awaited = new Field[MOST_AWAITED];
        private int awaitedCount = 0;
        private final Field rootType = new Field();
        private int atHand = 0;
        private int kind = Lexer.END;
        int fault = 0;
        int faultPlace = 0;

        Parser(Lexer lexer, Schema target) {
            this.lexer = lexer;
            this.target = target;
        }

        boolean parse() {
            target.restart();
            kind = lexer.kind(atHand);
            for (int i = 0; kind != Lexer.ROOT_WORD && i <= MOST_BYTES; i++) {
                if (!readDefinition()) {
                    return false;
                }
            }
            if (!readRoot() || !resolveAll()) {
                return false;
            }
            numberAllSlots();
            target.root = rootType.number;
            return true;
        }

        private void advance() {
            atHand++;
            kind = lexer.kind(atHand);
        }

        /** Of one lexeme the least kind of fault counts, so what is no lexeme is that above all. */
        private boolean fail(int faultKind) {
            fault = kind == Lexer.BAD ? NO_LEXEME : faultKind;
            faultPlace = lexer.place(atHand);
            return false;
        }

        private boolean expect(int wanted) {
            if (kind != wanted) {
                return fail(GRAMMAR);
            }
            advance();
            return true;
        }

        private boolean readDefinition() {
            int word = kind;
            if (word != Lexer.STRUCT_WORD && word != Lexer.TABLE_WORD && word != Lexer.UNION_WORD) {
                return fail(GRAMMAR);
            }
            advance();
            if (word == Lexer.STRUCT_WORD) {
                return readStruct(newDefinition(target.structs));
            }
            if (word == Lexer.TABLE_WORD) {
                return readTable(newDefinition(target.tables));
            }
            return readUnion(newDefinition(target.unions));
        }

        private Definition newDefinition(Group group) {
            if (kind != Lexer.NAME) {
                fail(GRAMMAR);
                return null;
            }
            if (target.named(lexer.head(atHand), lexer.tail(atHand)) != null) {
                fail(TWICE);
                return null;
            }
            Definition made = target.addTo(group, lexer.head(atHand), lexer.tail(atHand));
            if (made == null) {
                fail(ONE_MORE);
                return null;
            }
            advance();
            return made;
        }

        private Field newField(Definition made) {
            if (kind != Lexer.NAME) {
                fail(GRAMMAR);
                return null;
            }
            if (made.fieldNamed(lexer.head(atHand), lexer.tail(atHand)) != NONE) {
                fail(TWICE);
                return null;
            }
            Field field = made.addField(lexer.head(atHand), lexer.tail(atHand));
            if (field == null) {
                fail(ONE_MORE);
                return null;
            }
            advance();
            return field;
        }

        private boolean readStruct(Definition made) {
            if (made == null || !expect('{') || !readStructField(made, newField(made))) {
                return false;
            }
            for (int i = 0; kind != '}' && i <= MOST_BYTES; i++) {
                if (!readStructField(made, newField(made))) {
                    return false;
                }
            }
            layOut(made);
            if (made.bytes > MOST_STRUCT_BYTES) {
                return fail(TOO_GREAT);
            }
            findLeaves(made);
            return expect('}');
        }

        private boolean readStructField(Definition made, Field field) {
            return field != null && expect(':') && readStructType(made, field) && expect(';');
        }

        private boolean readStructType(Definition made, Field field) {
            if (kind == Lexer.SCALAR_WORD) {
                field.sort = SCALAR;
                field.number = (int) lexer.head(atHand);
            } else if (kind == Lexer.NAME) {
                Definition known = target.named(lexer.head(atHand), lexer.tail(atHand));
                if (known == null || known == made || known.sort != STRUCT) {
                    return fail(WRONG_NAME);
                }
                field.sort = STRUCT;
                field.number = known.number;
            } else {
                return fail(GRAMMAR);
            }
            advance();
            return true;
        }

        private void layOut(Definition made) {
            for (int f = 0; f < made.fieldCount; f++) {
                Field field = made.fieldAt(f);
                if (field != null) {
                    int alignment = target.alignmentOf(field.sort, field.number);
                    field.slot = roundUp(made.bytes, alignment);
                    made.bytes = field.slot + target.bytesOf(field.sort, field.number);
                    made.alignment = Math.max(made.alignment, alignment);
                }
            }
            made.bytes = roundUp(made.bytes, made.alignment);
        }

        /** Only behind the test of the struct's size, which keeps the leaves few. */
        private void findLeaves(Definition made) {
            for (int f = 0; f < made.fieldCount; f++) {
                Field field = made.fieldAt(f);
                if (field != null) {
                    addLeaves(made, field);
                }
            }
        }

        private void addLeaves(Definition made, Field field) {
            Definition inner = field.sort == STRUCT ? target.structs.at(field.number) : null;
            if (inner == null) {
                made.addLeaf(field.number, field.slot);
            } else {
                made.addLeavesOf(inner, field.slot);
            }
        }

        private boolean readTable(Definition made) {
            if (made == null || !expect('{')) {
                return false;
            }
            for (int i = 0; kind != '}' && i <= MOST_BYTES; i++) {
                Field field = newField(made);
                if (field == null || !expect(':') || !readType(field) || !readDefault(field)
                        || !readRequired(field) || !expect(';')) {
                    return false;
                }
            }
            return expect('}');
        }

        private boolean readType(Field field) {
            boolean isVector = kind == '[';
            if (isVector) {
                advance();
            }
            if (kind == Lexer.SCALAR_WORD) {
                field.sort = SCALAR;
                field.number = (int) lexer.head(atHand);
            } else if (kind == Lexer.TEXT_WORD) {
                field.sort = TEXT;
            } else if (kind == Lexer.NAME) {
                awaitDefinition(field, atHand);
            } else {
                return fail(GRAMMAR);
            }
            advance();
            if (!isVector) {
                return true;
            }
            field.elementSort = field.sort;
            field.sort = VECTOR;
            return expect(']');
        }

        private void awaitDefinition(Field field, int lexeme) {
            field.typeLexeme = lexeme;
            if (awaitedCount >= 0 && awaitedCount < awaited.length) {
                awaited[awaitedCount] = field;
                awaitedCount++;
            }
        }

        private boolean readDefault(Field field) {
            if (kind != '=') {
                return true;
            }
            if (field.sort != SCALAR || field.number == FLOAT || field.number == DOUBLE) {
                return fail(NOT_TAKEN);
            }
            advance();
            if (kind != Lexer.WHOLE) {
                return fail(GRAMMAR);
            }
            long whole = lexer.head(atHand);
            if (!isValue(field.number, whole) || field.number == ULONG && whole < 0) {
                return fail(NO_VALUE);
            }
            field.standard = whole;
            advance();
            return true;
        }

        private boolean readRequired(Field field) {
            if (kind != '(') {
                return true;
            }
            if (field.sort == SCALAR) {
                return fail(NOT_TAKEN);
            }
            advance();
            field.isRequired = true;
            return expect(Lexer.REQUIRED_WORD) && expect(')');
        }

        private boolean readUnion(Definition made) {
            if (made == null || !expect('{') || !readMember(made)) {
                return false;
            }
            for (int i = 0; kind == ',' && i <= MOST_BYTES; i++) {
                advance();
                if (!readMember(made)) {
                    return false;
                }
            }
            return expect('}');
        }

        private boolean readMember(Definition made) {
            int lexeme = atHand;
            Field member = newField(made);
            if (member == null) {
                return false;
            }
            member.sort = TABLE;
            awaitDefinition(member, lexeme);
            return true;
        }

        private boolean readRoot() {
            if (!expect(Lexer.ROOT_WORD)) {
                return false;
            }
            rootType.sort = TABLE;
            awaitDefinition(rootType, atHand);
            return expect(Lexer.NAME) && expect(';') && (kind == Lexer.END || fail(GRAMMAR));
        }

        private boolean resolveAll() {
            for (int i = 0; i < awaitedCount && i < awaited.length; i++) {
                Field field = awaited[i];
                if (field != null && !resolve(field)) {
                    return false;
                }
            }
            return true;
        }

        private boolean resolve(Field field) {
            int lexeme = field.typeLexeme;
            Definition known = target.named(lexer.head(lexeme), lexer.tail(lexeme));
            if (known == null || !mayStand(field, known)) {
                fault = WRONG_NAME;
                faultPlace = lexer.place(lexeme);
                return false;
            }
            field.number = known.number;
            if (field.sort == VECTOR) {
                field.elementSort = known.sort;
            } else {
                field.sort = known.sort;
            }
            return true;
        }

        /** Members of a union and what stands behind root are told to be tables from the first. */
        private static boolean mayStand(Field field, Definition known) {
            if (field.sort == VECTOR) {
                return known.sort != UNION;
            }
            return field.sort != TABLE || known.sort == TABLE;
        }

        /** Behind all else, as only a name that was resolved tells whether it is a union. */
        private void numberAllSlots() {
            for (int n = 0; n < target.tables.count; n++) {
                Definition table = target.tables.at(n);
                if (table != null) {
                    table.numberSlots();
                }
            }
        }
    }

    /**
     * What is being built. The row grows from its end to its beginning, so what is in it is told by
     * its start: how many bytes there are from its first byte on, which never changes.
     */
    private static final class Builder {
        private static final int MOST_SLOTS = 2 * MOST_TABLE_FIELDS;

        private final Bytes row = new Bytes();
        int length = 0;
        private int greatestAlignment = 4;
        private final int[] thingSorts = new int[MOST_THINGS];
        private final int[] thingNumbers = new int[MOST_THINGS];
        private final int[] thingElements = new int[MOST_THINGS];
        private final int[] thingStarts = new int[MOST_THINGS];
        int thingCount = 0;
        private final int[] listStarts = new int[MOST_THINGS];
        int listCount = 0;
        int openTable = NONE;
        private int lengthAtOpen = 0;
        private final boolean[] areSet = new boolean[MOST_TABLE_FIELDS];
        private final int[] slotStarts = new int[MOST_SLOTS];
        // The list that the open table wants, by its numbers of two bytes each.
        private final int[] list = new int[2 + MOST_SLOTS];
        private int listNumbers = 0;

        void empty() {
            length = 0;
            greatestAlignment = 4;
            thingCount = 0;
            listCount = 0;
            openTable = NONE;
        }

        boolean isOpen() {
            return openTable != NONE;
        }

        void open(int n) {
            openTable = n;
            lengthAtOpen = length;
            for (int i = 0; i < areSet.length; i++) {
                areSet[i] = false;
            }
            for (int i = 0; i < slotStarts.length; i++) {
                slotStarts[i] = 0;
            }
        }

        boolean isSet(int f) {
            return f >= 0 && f < areSet.length && areSet[f];
        }

        void markSet(int f) {
            if (f >= 0 && f < areSet.length) {
                areSet[f] = true;
            }
        }

        boolean hasRequired(Definition table) {
            if (table == null) {
                return false;
            }
            for (int f = 0; f < table.fieldCount; f++) {
                Field field = table.fieldAt(f);
                if (field != null && field.isRequired && !isSet(f)) {
                    return false;
                }
            }
            return true;
        }

        boolean isThing(long v, int sort, int number, int elementSort) {
            if (v < 0 || v >= thingCount || v >= MOST_THINGS) {
                return false;
            }
            int thing = (int) v;
            return thingSorts[thing] == sort && thingNumbers[thing] == number
                && thingElements[thing] == elementSort;
        }

        private boolean hasRoomForThing(int newLength) {
            return thingCount < MOST_THINGS && newLength <= MOST_BYTES;
        }

        /** What begins with the row's first byte is a thing. */
        private int addThing(int sort, int number, int elementSort) {
            int thing = thingCount;
            if (thing < 0 || thing >= MOST_THINGS) {
                return NONE;
            }
            thingSorts[thing] = sort;
            thingNumbers[thing] = number;
            thingElements[thing] = elementSort;
            thingStarts[thing] = length;
            thingCount++;
            return thing;
        }

        /** Puts bytes 0 ahead, aligned: where the first one is in the row's memory. */
        private int grow(int bytes, int alignment) {
            int newLength = roundUp(length + bytes, alignment);
            for (int start = length + 1; start <= newLength; start++) {
                row.putOctet(MOST_BYTES - start, 0);
            }
            length = newLength;
            greatestAlignment = Math.max(greatestAlignment, alignment);
            return MOST_BYTES - length;
        }

        private void putReference(int place, long thing) {
            if (thing >= 0 && thing < MOST_THINGS) {
                int start = MOST_BYTES - place;
                row.putNumber(place, REFERENCE_BYTES, start - thingStarts[(int) thing]);
            }
        }

        /** NONE, and nothing changes, if there is no room. */
        int addText(Bytes from, int bytes) {
            if (!hasRoomForThing(roundUp(length + bytes + 1, 4) + 4)) {
                return NONE;
            }
            int first = grow(bytes + 1, 4);
            row.copy(from, 0, first, bytes);
            row.putNumber(grow(4, 4), 4, bytes);
            return addThing(TEXT, 0, NONE);
        }

        /** NONE, and nothing changes, if there is no room. */
        int addVector(Schema schema, int sort, int number, Values values, int elements) {
            int each = schema.bytesOf(sort, number);
            int alignment = Math.max(4, schema.alignmentOf(sort, number));
            if (!hasRoomForThing(roundUp(length + elements * each, alignment) + 4)) {
                return NONE;
            }
            int first = grow(elements * each, alignment);
            for (int i = 0; i < elements; i++) {
                putContent(schema, first + i * each, sort, number, values, i);
            }
            row.putNumber(grow(4, 4), 4, elements);
            return addThing(VECTOR, number, sort);
        }

        /** What is stored of the i-th element that the values tell. */
        private void putContent(Schema schema, int place, int sort, int number, Values values, int i) {
            if (sort == SCALAR) {
                row.putNumber(place, scalarBytes(number), values.at(i));
            } else if (sort == STRUCT) {
                putStruct(schema.structs.at(number), place, values, i);
            } else {
                putReference(place, values.at(i));
            }
        }

        private void putStruct(Definition struct, int place, Values values, int i) {
            if (struct == null) {
                return;
            }
            int first = i * struct.leafCount;
            for (int j = 0; j < struct.leafCount; j++) {
                int bytes = scalarBytes(struct.leafScalar(j));
                row.putNumber(place + struct.leafPlace(j), bytes, values.at(first + j));
            }
        }

        /** False, and nothing changes, if there is no room. */
        boolean putField(Schema schema, Field field, Values values) {
            if (field.sort == UNION) {
                return putUnion(field, values);
            }
            int bytes = schema.bytesOf(field.sort, field.number);
            int alignment = schema.alignmentOf(field.sort, field.number);
            if (roundUp(length + bytes, alignment) > MOST_BYTES) {
                return false;
            }
            int place = grow(bytes, alignment);
            putContent(schema, place, field.sort, field.number, values, 0);
            markStored(field.slot);
            return true;
        }

        private boolean putUnion(Field field, Values values) {
            if (roundUp(length + REFERENCE_BYTES, REFERENCE_BYTES) + 1 > MOST_BYTES) {
                return false;
            }
            putReference(grow(REFERENCE_BYTES, REFERENCE_BYTES), values.at(1));
            markStored(field.slot + 1);
            row.putOctet(grow(1, 1), (int) values.at(0));
            markStored(field.slot);
            return true;
        }

        private void markStored(int slot) {
            if (slot >= 0 && slot < slotStarts.length) {
                slotStarts[slot] = length;
            }
        }

        /** The open table becomes a thing; NONE, and nothing changes, if there is no room. */
        int close() {
            int start = roundUp(length + 4, 4);
            prepareList(start);
            int listStart = startOfEqualList();
            int newLength = listStart == NONE ? start + 2 * listNumbers : start;
            if (!hasRoomForThing(newLength)) {
                return NONE;
            }
            int place = grow(4, 4);
            int thing = addThing(TABLE, openTable, NONE);
            if (listStart == NONE) {
                listStart = putList();
            }
            row.putNumber(place, 4, listStart - start);
            openTable = NONE;
            return thing;
        }

        private void prepareList(int start) {
            listNumbers = 2;
            for (int slot = 0; slot < slotStarts.length && slot + 2 < list.length; slot++) {
                boolean isThere = slotStarts[slot] != 0;
                list[slot + 2] = isThere ? start - slotStarts[slot] : 0;
                listNumbers = isThere ? slot + 3 : listNumbers;
            }
            list[0] = 2 * listNumbers;
            list[1] = start - lengthAtOpen;
        }

        private int startOfEqualList() {
            for (int i = 0; i < listCount && i < listStarts.length; i++) {
                if (isPreparedList(MOST_BYTES - listStarts[i])) {
                    return listStarts[i];
                }
            }
            return NONE;
        }

        /** A list's first number tells how many it has, so no longer one is taken for an equal one. */
        private boolean isPreparedList(int place) {
            for (int i = 0; i < listNumbers && i < list.length; i++) {
                if (row.number(place + 2 * i, 2) != list[i]) {
                    return false;
                }
            }
            return true;
        }

        private int putList() {
            int place = grow(2 * listNumbers, 2);
            for (int i = 0; i < listNumbers && i < list.length; i++) {
                row.putNumber(place + 2 * i, 2, list[i]);
            }
            if (listCount >= 0 && listCount < listStarts.length) {
                listStarts[listCount] = length;
                listCount++;
            }
            return length;
        }

        /** The row, with its root, goes to the finished one; false, and all stays, if there is no room. */
        boolean moveTo(Bytes finished, int root) {
            if (roundUp(length + REFERENCE_BYTES, greatestAlignment) > MOST_BYTES) {
                return false;
            }
            putReference(grow(REFERENCE_BYTES, greatestAlignment), root);
            finished.copy(row, MOST_BYTES - length, 0, length);
            finished.length = length;
            empty();
            return true;
        }
    }

    /** Judges bytes against a schema; each of its steps answers whether nothing was wrong. */
    private static final class Judge {
        private static final int SHORT = 1;
        private static final int OUT = 2;
        private static final int ALIGN = 3;
        private static final int DEEP = 4;
        private static final int MANY = 5;
        private static final int LIST = 6;
        private static final int SIZE = 7;
        private static final int ROOM = 8;
        private static final int MISSING = 9;
        private static final int FIELD = 10;
        private static final int VALUE = 11;
        private static final int WRONG_UNION = 12;
        private static final int LENGTH = 13;
        private static final int TEXT_END = 14;

        private final Schema schema;
        private final Bytes bytes;
        private final int length;
        int tablesComeTo = 0;
        int fault = 0;
        int faultPlace = 0;

        Judge(Schema schema, Bytes bytes, int length) {
            this.schema = schema;
            this.bytes = bytes;
            this.length = length;
        }

        boolean accepts() {
            if (length < REFERENCE_BYTES) {
                return wrong(SHORT, 0);
            }
            return isTable(0, schema.root, 1);
        }

        private boolean wrong(int kind, long place) {
            fault = kind;
            faultPlace = (int) place;
            return false;
        }

        private boolean isReference(int q) {
            long to = q + bytes.number(q, REFERENCE_BYTES);
            if (to == q || to + 4 > length) {
                return wrong(OUT, q);
            }
            return (to & 3) == 0 || wrong(ALIGN, q);
        }

        /** The table behind the reference at q; the depth counts the tables within one another, with it. */
        private boolean isTable(int q, int number, int depth) {
            if (!isReference(q)) {
                return false;
            }
            if (depth > MOST_DEPTH) {
                return wrong(DEEP, q);
            }
            if (tablesComeTo >= MOST_TABLES_COME_TO) {
                return wrong(MANY, q);
            }
            tablesComeTo++;
            int p = bytes.behind(q);
            Definition table = schema.tables.at(number);
            if (table == null || !isList(p)) {
                return false;
            }
            int list = (int) bytes.listOf(p);
            for (int f = 0; f < table.fieldCount; f++) {
                Field field = table.fieldAt(f);
                if (field != null && !isField(p, list, field, depth)) {
                    return false;
                }
            }
            return true;
        }

        private boolean isList(int p) {
            long list = bytes.listOf(p);
            if (list < 0 || (list & 1) != 0 || list + 4 > length) {
                return wrong(LIST, p);
            }
            long listBytes = bytes.number((int) list, 2);
            if (listBytes < 4 || (listBytes & 1) != 0 || list + listBytes > length) {
                return wrong(SIZE, list);
            }
            long tableBytes = bytes.number((int) list + 2, 2);
            return tableBytes >= 4 && p + tableBytes <= length || wrong(ROOM, list + 2);
        }

        private boolean isField(int p, int list, Field field, int depth) {
            if (field.sort == UNION) {
                return isUnion(p, list, field, depth);
            }
            int number = bytes.slotNumber(list, field.slot);
            if (number == 0) {
                return !field.isRequired || wrong(MISSING, p);
            }
            int size = schema.bytesOf(field.sort, field.number);
            int alignment = schema.alignmentOf(field.sort, field.number);
            if (!liesWell(p, list, field.slot, size, alignment)) {
                return false;
            }
            if (field.sort == VECTOR) {
                return isVector(p + number, field.elementSort, field.number, depth);
            }
            return isContent(p + number, field.sort, field.number, depth);
        }

        /** What a slot that is there tells of its place. */
        private boolean liesWell(int p, int list, int slot, int size, int alignment) {
            int e = list + 4 + 2 * slot;
            int number = (int) bytes.number(e, 2);
            if (number < 4 || number + size > bytes.number(list + 2, 2)) {
                return wrong(FIELD, e);
            }
            return isAligned(p + number, alignment) || wrong(ALIGN, e);
        }

        private boolean isUnion(int p, int list, Field field, int depth) {
            Definition union = schema.unions.at(field.number);
            if (union == null) {
                return false;
            }
            int number = bytes.slotNumber(list, field.slot);
            if (number != 0 && !liesWell(p, list, field.slot, 1, 1)) {
                return false;
            }
            int which = number == 0 ? 0 : bytes.octet(p + number);
            if (which > union.fieldCount) {
                return wrong(WRONG_UNION, p + number);
            }
            Field member = union.fieldAt(which - 1);
            if (member == null) {
                return isEmptyUnion(p, list, field);
            }
            return isMember(p, list, field.slot + 1, member.number, depth);
        }

        private boolean isEmptyUnion(int p, int list, Field field) {
            int slot = field.slot + 1;
            if (bytes.slotNumber(list, slot) != 0) {
                return wrong(WRONG_UNION, list + 4 + 2 * slot);
            }
            return !field.isRequired || wrong(MISSING, p);
        }

        private boolean isMember(int p, int list, int slot, int table, int depth) {
            int number = bytes.slotNumber(list, slot);
            if (number == 0) {
                return wrong(MISSING, p);
            }
            return liesWell(p, list, slot, REFERENCE_BYTES, REFERENCE_BYTES)
                && isTable(p + number, table, depth + 1);
        }

        /** What is stored at q, of a field or an element, but for vectors. */
        private boolean isContent(int q, int sort, int number, int depth) {
            switch (sort) {
                case SCALAR:
                    return number != BOOL || bytes.octet(q) <= 1 || wrong(VALUE, q);
                case TEXT:
                    return isReference(q) && isText(bytes.behind(q));
                case STRUCT:
                    return isStruct(q, schema.structs.at(number));
                default:
                    return isTable(q, number, depth + 1);
            }
        }

        private boolean isStruct(int q, Definition struct) {
            if (struct == null) {
                return false;
            }
            for (int i = 0; i < struct.leafCount; i++) {
                int place = q + struct.leafPlace(i);
                if (struct.leafScalar(i) == BOOL && bytes.octet(place) > 1) {
                    return wrong(VALUE, place);
                }
            }
            return true;
        }

        private boolean isText(int place) {
            long end = place + 4 + bytes.number(place, 4);
            if (end + 1 > length) {
                return wrong(LENGTH, place);
            }
            return bytes.octet((int) end) == 0 || wrong(TEXT_END, end);
        }

        private boolean isVector(int q, int sort, int number, int depth) {
            if (!isReference(q)) {
                return false;
            }
            int place = bytes.behind(q);
            int first = place + 4;
            if (!isAligned(first, schema.alignmentOf(sort, number))) {
                return wrong(ALIGN, place);
            }
            int each = schema.bytesOf(sort, number);
            long elements = bytes.number(place, 4);
            if (first + elements * each > length) {
                return wrong(LENGTH, place);
            }
            // No bytes are wrong in a scalar but in a bool.
            if (sort == SCALAR && number != BOOL) {
                return true;
            }
            for (int i = 0; i < elements; i++) {
                if (!isContent(first + i * each, sort, number, depth)) {
                    return false;
                }
            }
            return true;
        }
    }

    /** The buffer that was accepted, the node at hand, and those above it. */
    private static final class Reader {
        final Bytes buffer = new Bytes();
        private final int[] sorts = new int[MOST_NODES];
        private final int[] numbers = new int[MOST_NODES];
        private final int[] elementSorts = new int[MOST_NODES];
        private final int[] places = new int[MOST_NODES];
        // How many nodes are above the one at hand; NONE without a buffer.
        private int above = NONE;
        // What locate() found; its place is NONE if it is not stored.
        int partSort = NONE;
        int partNumber = 0;
        int partPlace = NONE;
        private int partElementSort = NONE;
        private long partStandard = 0;
        private int partWhich = 0;

        void drop() {
            buffer.length = 0;
            above = NONE;
        }

        void accept(Bytes accepted, int n, int root) {
            buffer.copy(accepted, 0, 0, n);
            buffer.length = n;
            goToRoot(root);
        }

        void goToRoot(int root) {
            above = NONE;
            enter(TABLE, root, NONE, buffer.behind(0));
        }

        private int enter(int sort, int number, int elementSort, int place) {
            int next = above + 1;
            if (next < 0 || next >= MOST_NODES) {
                return NONE;
            }
            above = next;
            sorts[next] = sort;
            numbers[next] = number;
            elementSorts[next] = elementSort;
            places[next] = place;
            return nodeKind();
        }

        int leave() {
            if (above < 1) {
                return NONE;
            }
            above--;
            return nodeKind();
        }

        private boolean isAtHand() {
            return above >= 0 && above < MOST_NODES;
        }

        int tell(Schema schema, int what) {
            if (!isAtHand()) {
                return NONE;
            }
            switch (what) {
                case 0:
                    return nodeKind();
                case 1:
                    return numbers[above];
                case 2:
                    return places[above];
                case 3:
                    return partCount(schema);
                case 4:
                    return above;
                default:
                    return NONE;
            }
        }

        private int nodeKind() {
            if (!isAtHand()) {
                return NONE;
            }
            switch (sorts[above]) {
                case TABLE:
                    return 1;
                case STRUCT:
                    return 2;
                case VECTOR:
                    return 3;
                default:
                    return 4;
            }
        }

        private Definition definitionAtHand(Schema schema) {
            if (!isAtHand()) {
                return null;
            }
            int number = numbers[above];
            return sorts[above] == TABLE ? schema.tables.at(number) : schema.structs.at(number);
        }

        private int partCount(Schema schema) {
            if (!isAtHand()) {
                return 0;
            }
            if (sorts[above] == VECTOR || sorts[above] == TEXT) {
                return (int) buffer.number(places[above], 4);
            }
            Definition definition = definitionAtHand(schema);
            return definition == null ? 0 : definition.fieldCount;
        }

        /** Whether there is a part k of the node at hand; the part's fields then tell of it. */
        boolean locate(Schema schema, int k) {
            if (!isAtHand() || k < 0 || k >= partCount(schema)) {
                return false;
            }
            int first = places[above] + 4;
            if (sorts[above] == TEXT) {
                found(BYTE_OF_TEXT, 0, NONE, first + k);
                return true;
            }
            if (sorts[above] == VECTOR) {
                int each = schema.bytesOf(elementSorts[above], numbers[above]);
                found(elementSorts[above], numbers[above], NONE, first + k * each);
                return true;
            }
            return locateField(schema, fieldOf(definitionAtHand(schema), k));
        }

        private void found(int sort, int number, int elementSort, int place) {
            partSort = sort;
            partNumber = number;
            partElementSort = elementSort;
            partPlace = place;
            partStandard = 0;
            partWhich = 0;
        }

        private boolean locateField(Schema schema, Field field) {
            if (field == null || !isAtHand()) {
                return false;
            }
            int node = places[above];
            boolean isInStruct = sorts[above] == STRUCT;
            int place = isInStruct ? node + field.slot : buffer.storedAt(node, field.slot);
            found(field.sort, field.number, field.elementSort, place);
            partStandard = field.standard;
            if (field.sort == UNION) {
                locateMember(schema.unions.at(field.number), node, field.slot + 1);
            }
            return true;
        }

        /** A union is there if its table is; the part's number is then that of this table. */
        private void locateMember(Definition union, int node, int slot) {
            partWhich = partPlace == NONE ? 0 : buffer.octet(partPlace);
            Field member = fieldOf(union, partWhich - 1);
            partPlace = member == null ? NONE : buffer.storedAt(node, slot);
            partNumber = member == null ? NONE : member.number;
        }

        boolean isPartReadable() {
            return partSort == SCALAR || partSort == BYTE_OF_TEXT || partSort == UNION;
        }

        long partValue() {
            if (partSort == UNION) {
                return partWhich;
            }
            if (partPlace == NONE) {
                return partStandard;
            }
            return partSort == SCALAR ? buffer.scalar(partPlace, partNumber) : buffer.octet(partPlace);
        }

        /** The part that was located, and is stored, is at hand; NONE if it is no node. */
        int enterPart() {
            switch (partSort) {
                case TEXT:
                case VECTOR:
                case TABLE:
                    return enter(partSort, partNumber, partElementSort, buffer.behind(partPlace));
                case UNION:
                    return enter(TABLE, partNumber, NONE, buffer.behind(partPlace));
                case STRUCT:
                    return enter(STRUCT, partNumber, NONE, partPlace);
                default:
                    return NONE;
            }
        }
    }
}
