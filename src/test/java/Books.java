import java.nio.charset.StandardCharsets;

/** Feeds texts to objects, and has some that several tests tell. */
final class Books {
    static final int FAR = 1_000_000_000;

    /** WORD w means (w + d) modulo 10 on DAY d; SENSE 0 alone gives, so WORD w does on DAY 10 - w. */
    static final String TEN = "book odds 5 stock 50; sense give 5;" + "sense take 0;".repeat(8)
            + "land; rule shift 1; text 1; text 0; text 9; text 5; text 1 0; text 8;";

    /** From DAY 0 on WORD 0 gives 1, takes 1, means nothing; WORD 1 is one DAY ahead, WORD 2 two. */
    static final String THREE = "book odds 5 stock 5; sense give 1; sense take 1; land; rule turn 0 1 2;"
            + "text 0; text 0 0; text 0 1 2; text 1; text 2; text 2 2 2 2 2 2 2 2;";

    /** As many SENSES, LANDS, RULES and TEXTS as there can be, and a TEXT of as many WORDS. */
    static final String FULL = "book odds 10 stock 99;" + "sense give 99;".repeat(9)
            + ("land;" + "rule shift 9;".repeat(7)).repeat(3) + "text 0 1 2 3 4 5 6 7;" + "text 9;".repeat(5);

    private Books() {
    }

    /** A tape that has just this text. */
    static void type(MissingMeaning x, String text) {
        byte[] bytes = text.getBytes(StandardCharsets.ISO_8859_1);
        x.end(0);
        for (int i = 0; i < bytes.length; i += 20) {
            x.feed(four(bytes, i), four(bytes, i + 4), four(bytes, i + 8), four(bytes, i + 12),
                    four(bytes, i + 16));
        }
        x.end(bytes.length);
    }

    static int tell(MissingMeaning x, String text) {
        type(x, text);
        return x.book();
    }

    static MissingMeaning of(String text) {
        MissingMeaning x = new MissingMeaning();
        int lines = tell(x, text);
        if (lines < 1) {
            throw new IllegalStateException("no book: " + lines + " for " + text);
        }
        return x;
    }

    /** A row of numbers, as a letter tells them. */
    static void tear(MissingMeaning x, int slot, int width, long... numbers) {
        x.row(slot, width, numbers.length);
        for (int i = 0; i < numbers.length; i++) {
            x.write(slot, i, numbers[i]);
        }
    }

    private static int four(byte[] bytes, int from) {
        int number = 0;
        for (int i = from; i < from + 4; i++) {
            number = number << 8 | (i < bytes.length ? bytes[i] & 255 : 32);
        }
        return number;
    }
}
