import java.nio.charset.StandardCharsets;

/** What the tests have in common: compared answers, and short ways to fill the tape. */
final class Check {
    private static int wrong = 0;
    private static int made = 0;

    private Check() {
    }

    interface Call {
        Object answer();
    }

    /** What a call answers: a number (a boolean counts 1 or 0), or the simple name of what it throws. */
    static String answer(Call call) {
        try {
            Object answer = call.answer();
            if (answer instanceof Boolean) {
                return (Boolean) answer ? "1" : "0";
            }
            return String.valueOf(answer);
        } catch (RuntimeException e) {
            return e.getClass().getSimpleName();
        }
    }

    static void same(String what, Object want, Call call) {
        String got = answer(call);
        String due = want instanceof Boolean ? ((Boolean) want ? "1" : "0") : String.valueOf(want);
        made++;
        if (!got.equals(due)) {
            wrong++;
            System.out.println(what + " answered " + got + ", due is " + due);
        }
    }

    static void end() {
        System.out.println(made + " answers, " + wrong + " wrong");
        if (wrong != 0 || made == 0) {
            System.exit(1);
        }
    }

    static byte[] bytesOf(String text) {
        return text.getBytes(StandardCharsets.ISO_8859_1);
    }

    static byte[] bytesOf(int... numbers) {
        byte[] bytes = new byte[numbers.length];
        for (int i = 0; i < numbers.length; i++) {
            bytes[i] = (byte) numbers[i];
        }
        return bytes;
    }

    /** The tape, empty so far, has these bytes then. */
    static void tape(FlatTables x, byte[] bytes) {
        for (int i = 0; i < bytes.length; i += 20) {
            int[] numbers = new int[5];
            for (int j = 0; j < 20; j++) {
                int octet = i + j < bytes.length ? bytes[i + j] & 255 : 0;
                numbers[j / 4] = numbers[j / 4] << 8 | octet;
            }
            x.feed(numbers[0], numbers[1], numbers[2], numbers[3], numbers[4]);
        }
        x.end(bytes.length);
    }

    static void tape(FlatTables x, String text) {
        tape(x, bytesOf(text));
    }

    static FlatTables withSchema(String text) {
        FlatTables x = new FlatTables();
        tape(x, text);
        x.schema();
        return x;
    }

    static void pushAll(FlatTables x, long... values) {
        for (long v : values) {
            x.push(v);
        }
    }

    static int text(FlatTables x, String text) {
        tape(x, text);
        return x.text();
    }

    static int vector(FlatTables x, int sort, int n, long... values) {
        pushAll(x, values);
        return x.vector(sort, n);
    }

    static boolean set(FlatTables x, int f, long... values) {
        pushAll(x, values);
        return x.set(f);
    }

    static boolean load(FlatTables x, byte[] bytes) {
        tape(x, bytes);
        return x.load(0);
    }

    static byte[] outOf(FlatTables x) {
        byte[] bytes = new byte[x.count(5)];
        for (int i = 0; i < bytes.length; i++) {
            bytes[i] = (byte) x.out(i);
        }
        return bytes;
    }

    static String hex(byte[] bytes) {
        StringBuilder text = new StringBuilder();
        for (byte b : bytes) {
            text.append(String.format("%02x", b & 255));
        }
        return text.toString();
    }
}
