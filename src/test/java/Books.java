import java.nio.charset.StandardCharsets;

/** Feeds texts to objects. */
final class Books {
    private Books() {
    }

    /** A tape that has just this text. */
    static void type(MissingMeaning x, String text) {
        byte[] bytes = text.getBytes(StandardCharsets.ISO_8859_1);
        x.end(0);
        for (int i = 0; i < bytes.length; i += 20) {
            x.feed(four(bytes, i), four(bytes, i + 4), four(bytes, i + 8), four(bytes, i + 12),
                    four(bytes, i + 16));
        }
        x.end(bytes.length);
    }

    static int tell(MissingMeaning x, String text) {
        type(x, text);
        return x.book();
    }

    static MissingMeaning of(String text) {
        MissingMeaning x = new MissingMeaning();
        int lines = tell(x, text);
        if (lines < 1) {
            throw new IllegalStateException("no book: " + lines + " for " + text);
        }
        return x;
    }

    private static int four(byte[] bytes, int from) {
        int number = 0;
        for (int i = from; i < from + 4; i++) {
            number = number << 8 | (i < bytes.length ? bytes[i] & 255 : 32);
        }
        return number;
    }
}
