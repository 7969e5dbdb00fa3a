/** Promises 1 to 3: a new object, feed, end. */
public final class TapeTest {
    public static void main(String[] args) {
        aNewObject();
        feeding();
        ending();
        Check.end();
    }

    private static void aNewObject() {
        Counted x = new Counted();
        int[] counts = {0, 0, 0, 0, FlatTables.NONE, 0, 0, 0, 0, FlatTables.NONE};
        for (int i = 0; i < counts.length; i++) {
            int what = i;
            Check.same("count(" + what + ")", counts[i], () -> x.count(what));
        }
        Check.same("count(-1)", -1, () -> x.count(-1));
        for (int i = 0; i < 4; i++) {
            int what = i;
            Check.same("fault(" + what + ")", 0, () -> x.fault(what));
        }
        Check.same("fault(4)", -1, () -> x.fault(4));
        Check.same("fault(-1)", -1, () -> x.fault(-1));
        for (int i = 0; i < 11; i++) {
            int what = i;
            Check.same("size(" + what + ", 0)", i < 3 ? 0 : -1, () -> x.size(what, 0));
        }
        Check.same("node(0)", -1, () -> x.node(0));
        Check.same("byteAt(0)", -1, () -> x.byteAt(0));
        Check.same("out(0)", -1, () -> x.out(0));
        Check.same("load(1)", "IllegalStateException", () -> x.load(1));
        Check.same("begin(0)", "NoSuchElementException", () -> {
            x.begin(0);
            return 0;
        });
    }

    private static void feeding() {
        Counted x = new Counted();
        Check.same("feed", 20, () -> x.feed(0x41424344, 0x45464748, 0x494a4b4c, 0x4d4e4f50, 0xff800001));
        Check.same("text", 0, x::text);
        Check.same("the tape is empty behind text()", 0, () -> x.count(0));
        x.tape("table T{t:text;}root T;");
        x.schema();
        x.tape(new byte[0]);
        x.feed(0x41424344, 0x45464748, 0x494a4b4c, 0x4d4e4f50, 0xff800001);
        x.text();
        x.begin(0);
        x.push(0);
        x.set(0);
        x.push(x.ready());
        x.finish(1);
        x.load(1);
        x.into(0);
        int[] due = {0x41, 0x42, 0x43, 0x44, 0x45, 0x46, 0x47, 0x48, 0x49, 0x4a, 0x4b, 0x4c, 0x4d, 0x4e,
            0x4f, 0x50, 0xff, 0x80, 0x00, 0x01};
        for (int i = 0; i < due.length; i++) {
            int k = i;
            Check.same("byte " + k, due[i], () -> x.read(k));
        }
    }

    private static void ending() {
        Counted x = new Counted();
        for (int i = 1; i <= 200; i++) {
            int has = 20 * i;
            Check.same("feed", has, () -> x.feed(1, 2, 3, 4, 5));
        }
        Check.same("feed beyond 4000", -1, () -> x.feed(1, 2, 3, 4, 5));
        Check.same("count", 4000, () -> x.count(0));
        Check.same("end(4001)", false, () -> x.end(4001));
        Check.same("end(-1)", false, () -> x.end(-1));
        Check.same("count", 4000, () -> x.count(0));
        Check.same("end(4000)", true, () -> x.end(4000));
        Check.same("end(3981)", true, () -> x.end(3981));
        Check.same("feed beyond 4000", -1, () -> x.feed(1, 2, 3, 4, 5));
        Check.same("end(3980)", true, () -> x.end(3980));
        Check.same("feed up to 4000", 4000, () -> x.feed(1, 2, 3, 4, 5));
        Check.same("end(0)", true, () -> x.end(0));
        Check.same("end(1)", false, () -> x.end(1));
        Check.same("end(min)", false, () -> x.end(Integer.MIN_VALUE));
    }
}
