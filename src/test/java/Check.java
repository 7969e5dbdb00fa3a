import java.nio.charset.StandardCharsets;
import java.util.ArrayList;
import java.util.List;

/** What the tests have in common: answers that are compared, and the sentences of the document they are for. */
final class Check {
    private static int wrong = 0;
    private static int made = 0;
    /** The sentences of the document that were looked at: a section's name, and the words. */
    static final List<String[]> SENTENCES = new ArrayList<>();
    private static int madeAtSentence = 0;

    private Check() {
    }

    interface Call {
        Object answer();
    }

    /** What a call answers: a number (a boolean counts 1 or 0), or the simple name of what it throws. */
    static String answer(Call call) {
        try {
            Object answer = call.answer();
            if (answer instanceof Boolean) {
                return (Boolean) answer ? "1" : "0";
            }
            return String.valueOf(answer);
        } catch (RuntimeException e) {
            return e.getClass().getSimpleName();
        }
    }

    static void same(String what, Object want, Call call) {
        String got = answer(call);
        String due = want instanceof Boolean ? ((Boolean) want ? "1" : "0") : String.valueOf(want);
        made++;
        if (!got.equals(due)) {
            broken(what + " answered " + got + ", due is " + due);
        }
    }

    /** What is compared from here on, up to the next sentence, would differ if this one did not hold. */
    static void sentence(String section, String words) {
        endSentence();
        SENTENCES.add(new String[] {section, words});
    }

    private static void endSentence() {
        if (!SENTENCES.isEmpty() && made == madeAtSentence) {
            broken("nothing was compared");
        }
        madeAtSentence = made;
    }

    static void broken(String what) {
        wrong++;
        if (!SENTENCES.isEmpty()) {
            String[] last = SENTENCES.get(SENTENCES.size() - 1);
            System.out.println("[" + last[0] + ": " + last[1] + "]");
        }
        System.out.println(what);
    }

    static void end() {
        endSentence();
        System.out.println(made + " answers, " + wrong + " wrong");
        if (wrong != 0 || made == 0) {
            System.exit(1);
        }
    }

    static byte[] bytesOf(String text) {
        return text.getBytes(StandardCharsets.ISO_8859_1);
    }

    static byte[] bytesOf(int... numbers) {
        byte[] bytes = new byte[numbers.length];
        for (int i = 0; i < numbers.length; i++) {
            bytes[i] = (byte) numbers[i];
        }
        return bytes;
    }

    static String hex(byte[] bytes) {
        StringBuilder text = new StringBuilder();
        for (byte b : bytes) {
            text.append(String.format("%02x", b & 255));
        }
        return text.toString();
    }
}
