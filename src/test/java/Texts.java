import java.nio.charset.StandardCharsets;

/** Puts texts on the tape of a ScriptLanguage. */
final class Texts {
    private Texts() {
    }

    static byte[] bytes(String text) {
        return text.getBytes(StandardCharsets.ISO_8859_1);
    }

    static int number(byte[] bytes, int from) {
        int number = 0;
        for (int i = 0; i < 4; i++) {
            int b = from + i < bytes.length ? bytes[from + i] & 255 : ' ';
            number = number << 8 | b;
        }
        return number;
    }

    /** The tape is the text alone, if there is room for it and for the blanks behind it. */
    static void put(ScriptLanguage x, String text) {
        x.end(0);
        byte[] bytes = bytes(text);
        for (int i = 0; i < bytes.length; i += 20) {
            x.feed(number(bytes, i), number(bytes, i + 4), number(bytes, i + 8), number(bytes, i + 12), number(bytes, i + 16));
        }
        x.end(bytes.length);
    }

    static int read(ScriptLanguage x, String text) {
        put(x, text);
        return x.read();
    }

    static String times(String text, int n) {
        return text.repeat(n);
    }
}
