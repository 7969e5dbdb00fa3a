/**
 * An object of the class that is used for at most 512 calls, as the document leaves free what later ones
 * answer: a test that makes more is itself wrong.
 */
final class Counted {
    private static final int MOST_CALLS = 512;

    private final FlatTables object = new FlatTables();
    private int calls = 0;

    static Counted with(String schema) {
        Counted x = new Counted();
        x.tape(schema);
        x.schema();
        return x;
    }

    private FlatTables called() {
        calls++;
        if (calls == MOST_CALLS + 1) {
            Check.broken("the test makes more than 512 calls on one object");
        }
        return object;
    }

    int calls() {
        return calls;
    }

    // ---- the calls of the face

    int feed(int a, int b, int c, int d, int e) {
        return called().feed(a, b, c, d, e);
    }

    boolean end(int n) {
        return called().end(n);
    }

    int schema() {
        return called().schema();
    }

    int fault(int what) {
        return called().fault(what);
    }

    int size(int what, int n) {
        return called().size(what, n);
    }

    int field(boolean isStruct, int n, int f, int what) {
        return called().field(isStruct, n, f, what);
    }

    long standard(int n, int f) {
        return called().standard(n, f);
    }

    int find(boolean isStruct, int n) {
        return called().find(isStruct, n);
    }

    int push(long v) {
        return called().push(v);
    }

    int text() {
        return called().text();
    }

    int vector(int sort, int n) {
        return called().vector(sort, n);
    }

    String begin(int n) {
        called().begin(n);
        return "open";
    }

    boolean set(int f) {
        return called().set(f);
    }

    int ready() {
        return called().ready();
    }

    int finish(int thing) {
        return called().finish(thing);
    }

    int clear() {
        return called().clear();
    }

    int out(int i) {
        return called().out(i);
    }

    int count(int what) {
        return called().count(what);
    }

    boolean load(int from) {
        return called().load(from);
    }

    int node(int what) {
        return called().node(what);
    }

    int has(int k) {
        return called().has(k);
    }

    long read(int k) {
        return called().read(k);
    }

    int into(int k) {
        return called().into(k);
    }

    int up() {
        return called().up();
    }

    boolean write(int k, long v) {
        return called().write(k, v);
    }

    int byteAt(int i) {
        return called().byteAt(i);
    }

    // ---- short ways

    /** The tape, empty so far, has these bytes then. */
    void tape(byte[] bytes) {
        for (int i = 0; i < bytes.length; i += 20) {
            int[] numbers = new int[5];
            for (int j = 0; j < 20; j++) {
                int octet = i + j < bytes.length ? bytes[i + j] & 255 : 0;
                numbers[j / 4] = numbers[j / 4] << 8 | octet;
            }
            feed(numbers[0], numbers[1], numbers[2], numbers[3], numbers[4]);
        }
        end(bytes.length);
    }

    void tape(String text) {
        tape(Check.bytesOf(text));
    }

    /** The tape, empty so far, has the text's first n bytes, and has had the others. */
    void tapeCut(String text, int n) {
        tape(text);
        end(n);
    }

    int find(boolean isStruct, int n, String name) {
        tape(name);
        return find(isStruct, n);
    }

    int text(String text) {
        tape(text);
        return text();
    }

    /** A text of so many bytes. */
    int textOf(int bytes) {
        tape(Raw.full(bytes, 0xee));
        return text();
    }

    /** The row has this many bytes then, a number divisible by 4, and at least 8 more than before. */
    void fillRow(int bytes) {
        textOf(bytes - count(2) - 5);
        if (count(2) != bytes) {
            Check.broken("the row is not filled");
        }
    }

    void pushAll(long... values) {
        for (long v : values) {
            push(v);
        }
    }

    int vector(int sort, int n, long... values) {
        pushAll(values);
        return vector(sort, n);
    }

    boolean set(int f, long... values) {
        pushAll(values);
        return set(f);
    }

    boolean load(byte[] bytes) {
        tape(bytes);
        return load(0);
    }

    /** An empty table n: its thing. */
    int table(int n) {
        begin(n);
        return ready();
    }

    /** A table n with one field: its thing. */
    int table(int n, int f, long... values) {
        begin(n);
        set(f, values);
        return ready();
    }

    /** The thing is the root of what is read then. */
    boolean readFrom(int thing) {
        finish(thing);
        return load(1);
    }

    String outHex() {
        StringBuilder hex = new StringBuilder();
        int n = count(5);
        for (int i = 0; i < n; i++) {
            hex.append(String.format("%02x", out(i)));
        }
        return hex.toString();
    }

    String bufferHex() {
        StringBuilder hex = new StringBuilder();
        int n = count(6);
        for (int i = 0; i < n; i++) {
            hex.append(String.format("%02x", byteAt(i)));
        }
        return hex.toString();
    }

    /** All that can be seen at a glance, but for the tape and the values. */
    String state() {
        StringBuilder all = new StringBuilder("count");
        for (int what = 2; what <= 8; what++) {
            all.append(' ').append(count(what));
        }
        all.append(", fault");
        for (int what = 0; what <= 3; what++) {
            all.append(' ').append(fault(what));
        }
        all.append(", size");
        for (int what = 0; what <= 3; what++) {
            all.append(' ').append(size(what, 0));
        }
        all.append(", node");
        for (int what = 0; what <= 4; what++) {
            all.append(' ').append(node(what));
        }
        return all.append(", out ").append(out(0)).append(", byteAt ").append(byteAt(4)).toString();
    }
}
