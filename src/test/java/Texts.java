/** Puts texts on the tape of a fair. */
final class Texts {
    private Texts() {
    }

    static void tape(HoopFair fair, String text) {
        byte[] bytes = text.getBytes(java.nio.charset.StandardCharsets.ISO_8859_1);
        tape(fair, bytes);
    }

    static void tape(HoopFair fair, byte[] bytes) {
        fair.end(0);
        for (int at = 0; at < bytes.length; at += 20) {
            fair.feed(four(bytes, at), four(bytes, at + 4), four(bytes, at + 8), four(bytes, at + 12), four(bytes, at + 16));
        }
        fair.end(bytes.length);
    }

    private static int four(byte[] bytes, int at) {
        int four = 0;
        for (int i = at; i < at + 4; i++) {
            four = four << 8 | (i < bytes.length ? bytes[i] & 255 : 0);
        }
        return four;
    }

    static Object fair(HoopFair fair, String text) {
        tape(fair, text);
        return Check.answerOf(fair::fair);
    }

    static Object law(HoopFair fair, String text) {
        tape(fair, text);
        return Check.answerOf(fair::law);
    }

    static HoopFair of(String text) {
        HoopFair fair = new HoopFair();
        Object answer = fair(fair, text);
        if (!"1".equals(answer)) {
            throw new IllegalStateException(text + " answered " + answer + " at " + fair.fault());
        }
        return fair;
    }
}
