import java.util.Arrays;

/** Rows of bytes for the tests, made up without the class. */
final class Raw {
    private Raw() {
    }

    /** The bytes that pairs of digits tell; blanks are left out. */
    static byte[] hex(String digits) {
        String all = digits.replace(" ", "");
        byte[] bytes = new byte[all.length() / 2];
        for (int i = 0; i < bytes.length; i++) {
            bytes[i] = (byte) Integer.parseInt(all.substring(2 * i, 2 * i + 2), 16);
        }
        return bytes;
    }

    static byte[] full(int n, int octet) {
        byte[] bytes = new byte[n];
        Arrays.fill(bytes, (byte) octet);
        return bytes;
    }

    /** A place and the byte that comes there, again and again. */
    static byte[] with(byte[] bytes, int... changes) {
        byte[] changed = bytes.clone();
        for (int i = 0; i + 1 < changes.length; i += 2) {
            changed[changes[i]] = (byte) changes[i + 1];
        }
        return changed;
    }

    /** Two bytes come to a place, the lowest first. */
    static byte[] with2(byte[] bytes, int place, int number) {
        return with(bytes, place, number, place + 1, number >>> 8);
    }

    /** Four bytes come to a place, the lowest first. */
    static byte[] with4(byte[] bytes, int place, long number) {
        byte[] changed = bytes.clone();
        put4(changed, place, number);
        return changed;
    }

    static void put2(byte[] bytes, int place, int number) {
        bytes[place] = (byte) number;
        bytes[place + 1] = (byte) (number >>> 8);
    }

    static void put4(byte[] bytes, int place, long number) {
        for (int i = 0; i < 4; i++) {
            bytes[place + i] = (byte) (number >>> (8 * i));
        }
    }

    /** Cut, or with bytes 0 behind. */
    static byte[] sized(byte[] bytes, int n) {
        return Arrays.copyOf(bytes, n);
    }

    /** A text with # told by 0, 1 .. , again and again. */
    static String repeat(int n, String pattern) {
        StringBuilder all = new StringBuilder();
        for (int i = 0; i < n; i++) {
            all.append(pattern.replace("#", String.valueOf(i)));
        }
        return all.toString();
    }
}
