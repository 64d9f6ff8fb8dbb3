import java.math.BigInteger;

/**
 * The same for what is done, promises 61 to 73: what is refused, in which order, and what stays
 * behind it.
 */
public final class StateEdgeTest {
    private static final Check CHECK = new Check("StateEdgeTest");

    public static void main(String[] args) {
        acts();
        thirtyActs();
        draws();
        rates();
        counts();
        images();
        fullImages();
        rows();
        cuts();
        pastes();
        behindOtherBooks();
        CHECK.finish();
    }

    private static void due(String call, long got, long want) {
        CHECK.due(call, got, want);
    }

    /** Promises 61 to 64. */
    private static void acts() {
        MissingMeaning x = Books.of(Books.TEN + "land;");
        due("63 there is none", x.undo(), -5);
        due("64 there were none", x.anew(), 0);
        due("61 one twice", x.swaps(0, 9, 9), -2);
        due("61 one twice is no act", x.count(6), 0);
        due("61 the first and the last", x.swaps(0, 0, 9), 0);
        due("61 nothing was meant", x.swaps(0, 0, 9), 9);
        due("61 the same again", x.swaps(0, 9, 0), 9);
        due("61 the last land", x.swaps(1, 9, 0), 9);
        due("62 the least", x.stock(0), 50);
        due("62 the most", x.stock(99), 0);
        due("62 the same", x.stock(99), 99);
        due("68 seven acts", x.count(6), 7);
        due("62 refused", x.stock(100), -2);
        due("62 refused", x.stock(-1), -2);
        due("61 refused", x.swaps(2, 0, 1), -2);
        due("61 refused", x.swaps(0, 10, 1), -2);
        due("68 seven acts still", x.count(6), 7);
        due("62 it stays", x.read(0, 3, 0), 99);
        due("63 the same stock", x.undo(), 6);
        due("63 the same stock", x.read(0, 3, 0), 99);
        due("63 the stock ahead", x.undo(), 5);
        due("63 the stock ahead", x.read(0, 3, 0), 0);
        due("63 as told", x.undo(), 4);
        due("63 as told", x.read(0, 3, 0), 50);
        due("63 the last land", x.undo(), 3);
        due("63 the last land", x.means(1, 0, 9), 9);
        due("63 the first land", x.means(0, 0, 9), 0);
        due("64 how many there were", x.anew(), 3);
        due("64 as told", x.means(0, 0, 9), 9);
        due("64 none", x.count(6), 0);
        due("64 none again", x.anew(), 0);
        due("63 none", x.undo(), -5);
        due("63 none stay", x.count(6), 0);
        // On day d word w means what it would by the new meanings of day 0.
        x.swaps(0, 1, 2);
        due("61 on later days", x.means(0, 1, 0), 2);
        due("61 on later days", x.means(0, 1, 1), 1);
        due("61 on the last day of a round", x.means(0, 9, 2), 2);
        due("61 far", x.means(0, Books.FAR, 1), 2);
        due("61 what it meant on day 0, by all that was done", x.swaps(0, 2, 3), 1);
        due("10 says", x.says(0, 0, 1), 3);
        MissingMeaning bare = Books.of("book odds 0 stock 0; land;");
        due("61 one word alone", bare.swaps(0, 0, 0), -2);
        due("61 no other word", bare.swaps(0, 0, 1), -2);
        MissingMeaning none = Books.of("book odds 0 stock 0; sense stop;");
        due("61 no land", none.swaps(0, 0, 1), -2);
        due("62 no land", none.stock(1), 0);
        MissingMeaning no = new MissingMeaning();
        due("61 no book", no.swaps(0, 0, 1), -2);
        due("62 no book", no.stock(0), -2);
        due("63 no book", no.undo(), -2);
        due("64 no book", no.anew(), -2);
        due("68 no book, no acts", no.count(6), 0);
    }

    /** Thirty acts, and no more: -5, behind -2. */
    private static void thirtyActs() {
        MissingMeaning x = Books.of(Books.TEN);
        for (int i = 0; i < 29; i++) {
            due("61 act " + i, x.swaps(0, i % 9, i % 9 + 1) >= 0 ? 1 : 0, 1);
        }
        due("62 the thirtieth", x.stock(1), 50);
        int zero = x.means(0, 0, 0);
        due("61 the thirty-first", x.swaps(0, 0, 1), -5);
        due("62 the thirty-first", x.stock(2), -5);
        due("67 there were acts", x.rate(0, 1), -5);
        due("61 -2 first", x.swaps(0, 0, 10), -2);
        due("61 -2 first", x.swaps(0, 0, 0), -2);
        due("61 -2 first", x.swaps(1, 0, 1), -2);
        due("62 -2 first", x.stock(100), -2);
        due("67 -2 first", x.rate(0, 100), -2);
        due("67 -2 first", x.rate(9, 1), -2);
        due("68 thirty", x.count(6), 30);
        due("61 nothing happened", x.means(0, 0, 0), zero);
        due("62 nothing happened", x.read(0, 0, 0), 1 + (x.means(0, 0, 1) == 0 ? 5 : 0));
        due("63 room for one", x.undo(), 29);
        due("61 the thirtieth", x.swaps(0, 0, 1), zero);
        due("62 full again", x.stock(2), -5);
        due("64 all", x.anew(), 30);
        for (int w = 0; w < 10; w++) {
            due("64 as told", x.means(0, 0, w), w);
        }
        due("62 as told", x.stock(3), 50);
        for (int i = 1; i < 30; i++) {
            due("62 act " + i, x.stock(i), i == 1 ? 3 : i - 1);
        }
        due("62 full", x.stock(1), -5);
        for (int i = 29; i >= 0; i--) {
            due("63 undo", x.undo(), i);
        }
        due("63 none", x.undo(), -5);
        due("62 as told", x.stock(3), 50);
    }

    private static int drawn(long seed, int n, int odds) {
        BigInteger x = BigInteger.valueOf(seed);
        int late = 0;
        for (int i = 0; i < n; i++) {
            x = x.multiply(BigInteger.valueOf(1_103_515_245)).add(BigInteger.valueOf(12_345)).mod(BigInteger.ONE.shiftLeft(31));
            late += x.shiftRight(16).mod(BigInteger.TEN).intValueExact() < odds ? 1 : 0;
        }
        return late;
    }

    /** Promises 65 and 66: the least and the greatest seeds and odds. */
    private static void draws() {
        int[] seeds = {0, 1, 2, 65_535, 65_536, 1_000_000_000, 1_999_999_981, 1_999_999_999, 2_000_000_000};
        for (int odds = 0; odds <= 10; odds++) {
            MissingMeaning x = Books.of("book odds " + odds + " stock 50; sense give 5;" + "sense take 0;".repeat(8)
                    + "land; rule shift 1; text 7; text 8; text 7 8 9 0;");
            for (int seed : seeds) {
                for (int n = 0; n <= 7; n++) {
                    due("65 drawn(" + seed + ", " + n + "), odds " + odds, x.drawn(seed, n), drawn(seed, n, odds));
                }
                // TEXT 0 leaves more on DAY 3, TEXT 1 on DAY 2.
                for (int n : new int[] {1, 2, 19, 20}) {
                    int three = 0;
                    int two = 0;
                    int few = 0;
                    for (int i = 0; i < n; i++) {
                        int late = drawn(seed + (long) i, 7, odds);
                        three += late == 3 ? 1 : 0;
                        two += late == 2 ? 1 : 0;
                        few += late <= 3 ? 1 : 0;
                    }
                    due("66 late by three", x.luck(seed, n, 0, 0, 0), three);
                    due("66 late by two", x.luck(seed, n, 0, 0, 1), two);
                    due("66 late by three, far", x.luck(seed, n, 0, Books.FAR, 0), three);
                    due("66 late by three at most", x.luck(seed, n, 0, Books.FAR, 2), few);
                }
            }
        }
        MissingMeaning x = Books.of("book odds 10 stock 5; sense give 1; land; rule swap 0 1; text 0; text 1; text 0 1;");
        due("66 always late by seven", x.luck(0, 20, 0, 0, 0), 0);
        due("66 always late by seven", x.luck(0, 20, 0, 0, 1), 20);
        due("66 always", x.luck(0, 20, 0, 0, 2), 20);
        x.stock(6);
        due("66 above what it is now", x.luck(0, 20, 0, 0, 2), 20);
        due("66 not above what it is now", x.luck(0, 20, 0, 0, 0), 0);
        MissingMeaning none = Books.of("book odds 10 stock 5;");
        due("65 a book alone", none.drawn(0, 7), 7);
        due("65 no nights", none.drawn(0, 0), 0);
        due("66 no land", none.luck(0, 1, 0, 0, 0), -2);
    }

    /** Promise 67. */
    private static void rates() {
        MissingMeaning x = Books.of("book odds 0 stock 9; sense give 0; sense take 99; sense double; sense stop; sense skip; land;"
                + "text 0; text 1;");
        due("67 the most", x.rate(0, 99), 0);
        due("67 the same", x.rate(0, 99), 99);
        due("67 it is read so", x.read(0, 0, 0), 108);
        due("67 the least", x.rate(1, 0), 99);
        due("67 it is read so", x.read(0, 0, 1), 9);
        due("67 another stays", x.sense(0, 1), 99);
        due("67 its kind stays", x.sense(1, 0), 1);
        for (int s = 2; s <= 5; s++) {
            due("67 none such", x.rate(s, 5), -2);
            due("67 none such", x.sense(s, 1), s < 5 ? 0 : -2);
        }
        due("67 no act", x.count(6), 0);
        due("67 nothing to take back", x.undo(), -5);
        x.swaps(0, 0, 1);
        due("67 there were acts", x.rate(0, 1), -5);
        due("67 it stays", x.sense(0, 1), 99);
        due("67 -2 first", x.rate(2, 1), -2);
        due("67 -2 first", x.rate(0, -1), -2);
        x.anew();
        due("67 none any more", x.rate(0, 1), 99);
        x.stock(9);
        due("67 a stock is an act", x.rate(0, 2), -5);
        x.undo();
        due("67 none any more", x.rate(0, 2), 1);
        due("64 rates are no acts", x.anew(), 0);
        due("64 rates stay", x.sense(0, 1), 2);
        due("67 no book", new MissingMeaning().rate(0, 0), -2);
    }

    /** Promise 68. */
    private static void counts() {
        MissingMeaning x = Books.of(Books.FULL);
        int[] want = {10, 99, 9, 3, 21, 6, 0, 40, 0, 0};
        for (int what = 0; what < 10; what++) {
            due("68 all full, count(" + what + ")", x.count(what), want[what]);
        }
        for (int i = 1; i <= 4; i++) {
            x.row(4 - i, 0, i == 1 ? 0 : 60);
            due("68 slots", x.count(9), i);
        }
        x.row(0, 0, -1);
        x.row(0, 0, 61);
        due("68 slots", x.count(9), 4);
        for (int i = 1; i <= 30; i++) {
            x.stock(i);
            x.feed(0, 0, 0, 0, 0);
            due("68 acts", x.count(6), i);
            due("68 bytes", x.count(8), 20 * i);
        }
        x.stock(1);
        x.feed(0, 0, 0, 0, 0);
        due("68 acts, full", x.count(6), 30);
        due("68 bytes, full", x.count(8), 600);
        due("68 as told", x.count(1), 99);
        due("68 a fault", x.book(), -4);
        due("68 bytes stay", x.count(8), 600);
        x.end(0);
        x.book();
        int[] none = {0, 0, 0, 0, 0, 0, 0, 0, 0, 4};
        for (int what = 0; what < 10; what++) {
            due("68 no book, count(" + what + ")", x.count(what), none[what]);
        }
    }

    /** Promises 69 and 70. */
    private static void images() {
        MissingMeaning x = new MissingMeaning();
        for (int k = 0; k < 3; k++) {
            due("70 it has nothing", x.back(k), -6);
        }
        due("69 no such k", x.image(3), -2);
        due("69 no such k", x.image(-1), -2);
        due("70 no such k", x.back(3), -2);
        due("70 no such k", x.back(-1), -2);
        Books.tell(x, Books.TEN);
        due("70 it still has nothing", x.back(0), -6);
        due("70 all stays", x.count(7), 18);
        due("69 image(0)", x.image(0), 0);
        x.stock(7);
        due("69 image(1)", x.image(1), 0);
        x.swaps(0, 0, 1);
        due("69 image(2)", x.image(2), 0);
        int[][] want = {{0, 0, 50}, {1, 0, 7}, {2, 1, 7}};
        for (int i = 0; i < 9; i++) {
            int k = i * 2 % 3;
            due("70 back(" + k + ")", x.back(k), 0);
            due("70 acts", x.count(6), want[k][0]);
            due("70 meanings", x.means(0, 0, 0), want[k][1]);
            due("70 stock", x.read(0, 4, 0), want[k][2]);
        }
        // What is done behind does not change the image.
        x.back(1);
        x.swaps(0, 4, 5);
        x.stock(8);
        x.anew();
        due("70 as it was kept", x.back(1), 0);
        due("70 acts", x.count(6), 1);
        due("70 stock", x.read(0, 4, 0), 7);
        due("63 of its acts", x.undo(), 0);
        due("63 of its acts", x.read(0, 4, 0), 50);
        due("69 in place of what it had", x.image(1), 0);
        x.stock(8);
        due("70 as it was kept last", x.back(1), 0);
        due("70 no acts", x.count(6), 0);
        due("70 the others stay", x.back(2), 0);
        due("70 the others stay", x.count(6), 2);
        due("68 as told, in an image, too", x.count(1), 50);
        due("64 as told, in an image, too", x.anew(), 2);
        due("62 as told, in an image, too", x.read(0, 4, 0), 50);
        // Slots, the tape and the fault are no part of it.
        x.row(0, 0, 2);
        due("4 a fault", Books.tell(x, "book odds 11"), -4);
        due("70 back(0)", x.back(0), 0);
        due("70 slots stay", x.count(9), 1);
        due("70 the tape stays", x.count(8), 12);
        due("70 the fault stays", x.fault(0), 2);
        due("70 the fault's place stays", x.fault(1), 10);
        x.end(0);
        due("4 no book", x.book(), 0);
        due("69 of no book", x.image(2), 0);
        due("70 back(0)", x.back(0), 0);
        due("70 a book", x.count(7), 18);
        due("70 of no book", x.back(2), 0);
        due("70 no book", x.count(7), 0);
        due("70 no book", x.read(0, 0, 0), -2);
        due("70 no book", x.undo(), -2);
    }

    /** An image of all that a book can have, with thirty acts, behind a small book. */
    private static void fullImages() {
        MissingMeaning x = Books.of(Books.FULL);
        x.rate(8, 1);
        for (int i = 0; i < 30; i++) {
            x.swaps(i % 3, i % 9, i % 9 + 1);
        }
        int[] means = new int[30];
        for (int i = 0; i < 30; i++) {
            means[i] = x.means(i / 10, 0, i % 10);
        }
        x.image(2);
        due("4 a small book", Books.tell(x, "book odds 1 stock 2; sense stop; land; rule swap 0 1; text 1;"), 5);
        x.image(0);
        due("70 back to all", x.back(2), 0);
        due("70 thirty acts", x.swaps(0, 0, 1), -5);
        due("70 lines", x.count(7), 40);
        due("70 a rate", x.sense(8, 1), 1);
        due("70 the last rule", x.rule(2, 6, 9), 8);
        due("70 the last word", x.word(0, 7), 7);
        due("70 the last text", x.word(5, 0), 9);
        due("70 round", x.round(2), 10);
        due("70 order", x.order(2), 10);
        for (int i = 0; i < 30; i++) {
            due("70 meanings", x.means(i / 10, 0, i % 10), means[i]);
        }
        due("70 the small one", x.back(0), 0);
        due("70 round", x.round(0), 2);
        due("70 no such land", x.round(1), -2);
        due("70 no such text", x.word(1, 0), -2);
        due("70 no such word", x.means(0, 0, 2), -2);
        due("70 all again", x.back(2), 0);
        for (int i = 29; i >= 0; i--) {
            due("63 of acts gone back to", x.undo(), i);
        }
        for (int i = 0; i < 30; i++) {
            due("63 of acts gone back to", x.means(i / 10, 0, i % 10), i % 10);
        }
        due("70 a rate stays", x.sense(8, 1), 1);
    }

    /** Promises 71 and 72. */
    private static void rows() {
        MissingMeaning x = Books.of(Books.TEN);
        for (int width = 0; width < 4; width++) {
            for (int n = 0; n <= 60; n++) {
                due("71 row of " + n, x.row(2, width, n), 0);
                if (n > 0) {
                    due("72 the last", x.write(2, n - 1, 5), 0);
                }
                due("72 behind the last", x.write(2, n, 5), -7);
            }
            x = Books.of(Books.TEN);
        }
        due("72 nothing", x.write(2, 0, 5), -6);
        due("72 nothing, no such number", x.write(2, -1, 5), -6);
        due("72 no such slot, no such number", x.write(4, -1, 5), -2);
        due("71 row", x.row(2, 1, 2), 0);
        due("72 far behind", x.write(2, Integer.MAX_VALUE, 5), -7);
        due("72 ahead", x.write(2, -1, 5), -7);
        due("72 far ahead", x.write(2, Integer.MIN_VALUE, 5), -7);
        due("48 all 0", x.torn(2, 0), 0);
        x.write(2, 1, 50);
        due("48 a row", x.torn(2, 0), 9);
        due("72 nothing happens", x.write(2, 2, 55), -7);
        due("48 the row stays", x.torn(2, 0), 9);
        int[][] refused = {{2, 1, 61, -2}, {2, 1, Integer.MAX_VALUE, -2}, {2, 1, -1, -3}, {2, 1, Integer.MIN_VALUE, -3},
            {2, 4, 2, -2}, {2, -1, 2, -2}, {2, 4, -1, -2}, {2, -1, -1, -2}, {4, 1, -1, -2}, {-1, 1, -1, -2}, {4, 1, 2, -2}};
        for (int[] r : refused) {
            due("71 row(" + r[0] + ", " + r[1] + ", " + r[2] + ")", x.row(r[0], r[1], r[2]), r[3]);
            due("71 the slot stays", x.torn(2, 0), 9);
            due("71 no other has one", x.count(9), 1);
        }
        due("71 a slot with nothing stays so", x.row(0, 0, -1), -3);
        due("71 it has nothing", x.torn(0, 0), -6);
        due("71 a slot with nothing stays so", x.row(0, 0, 61), -2);
        due("71 it has nothing", x.write(0, 0, 0), -6);
        due("71 longer, in place of it", x.row(2, 1, 4), 0);
        due("71 all 0", x.torn(2, 0), 0);
        x.write(2, 1, 50);
        x.write(2, 3, 50);
        due("48 a row of four", x.torn(2, 0), 9);
        due("71 shorter, in place of it", x.row(2, 1, 2), 0);
        due("71 all 0", x.torn(2, 0), 0);
        due("72 no longer there", x.write(2, 2, 50), -7);
        due("71 longer again", x.row(2, 1, 4), 0);
        x.write(2, 1, 50);
        due("71 all 0 again", x.torn(2, 0), 0);
        due("71 of another width", x.row(2, 3, 2), 0);
        due("71 all 0", x.torn(2, 0), 0);
        due("71 of no numbers", x.row(2, 0, 0), 0);
        due("71 a row all the same", x.torn(2, 0), 10);
        due("72 none there", x.write(2, 0, 0), -7);
        Books.tell(x, "");
        due("71 without a book", x.row(3, 3, 60), 0);
        due("72 without a book", x.write(3, 59, Long.MAX_VALUE), 0);
        due("73 without a book", x.paste(3, 0, 3, 1, 59), 0);
        due("72 without a book, beyond", x.write(3, 60, 0), -7);
    }

    /** Promise 72: what is cut to a WIDTH, as a stock that a letter tells. */
    private static void cuts() {
        MissingMeaning x = Books.of("book odds 0 stock 99; sense double; land; text 0 0 0 0 0 0 0 0; text 1; text 0;");
        long[][] cut = {{0, 99, 1}, {0, 99 + 256, 1}, {0, 99 - 256, 1}, {0, 99L + (1L << 62), 1}, {0, 127, 0}, {0, 128, -2},
            {0, 255, -2}, {0, 256, 0}, {0, -1, -2}, {0, -128, -2}, {0, -129, 0}, {0, Long.MIN_VALUE, 0}, {0, Long.MAX_VALUE, -2},
            {1, 99 + 256, 0}, {1, 99 + 65_536, 1}, {1, 99 - 65_536, 1}, {1, 9_999, 0}, {1, 10_000, -2}, {1, 32_767, -2},
            {1, 32_768, -2}, {1, 65_535, -2}, {1, 65_536, 0}, {1, -32_768, -2}, {1, Long.MIN_VALUE, 0}, {1, Long.MAX_VALUE, -2},
            {2, 99 + 65_536, -2}, {2, 99 + (1L << 32), 1}, {2, 99 - (1L << 32), 1}, {2, 1L << 31, -2}, {2, (1L << 32) - 1, -2},
            {2, 1L << 32, 0}, {2, Long.MIN_VALUE, 0}, {2, Long.MAX_VALUE, -2},
            {3, 99, 1}, {3, 99 + (1L << 32), -2}, {3, 99 + (1L << 62), -2}, {3, -1, -2}, {3, Long.MIN_VALUE, -2},
            {3, Long.MAX_VALUE, -2}};
        for (long[] c : cut) {
            Books.tear(x, 0, (int) c[0], 1, c[1]);
            due("72 width " + c[0] + ", " + c[1], x.torn(0, 0), c[2]);
        }
        long[][] texts = {{0, 256 + 1, 1}, {0, 2 + 256, 0}, {0, 3 + 256, -2}, {1, 65_536 + 1, 1}, {2, (1L << 32) + 1, 1},
            {3, (1L << 32) + 1, -2}};
        for (long[] t : texts) {
            Books.tear(x, 0, (int) t[0], t[1], 99);
            due("72 width " + t[0] + ", text " + t[1], x.torn(0, 0), t[2]);
        }
        Books.tear(x, 0, 1, 0, 9_999);
        due("72 the most, in two bytes", x.torn(0, 0), 1);
        Books.tear(x, 0, 0, 0, 9_999);
        due("72 the most, in one byte", x.torn(0, 0), 0);
        Books.tear(x, 0, 0, 2, 198);
        due("72 198, in one byte", x.torn(0, 0), -2);
        Books.tear(x, 0, 1, 2, 198);
        due("72 198, in two bytes", x.torn(0, 0), 1);
    }

    /** Promise 73. */
    private static void pastes() {
        MissingMeaning x = Books.of(Books.TEN);
        due("73 both have nothing", x.paste(0, 0, 1, 0, 0), -6);
        due("73 one has nothing, its own", x.paste(0, -1, 0, -1, -1), -6);
        due("73 no such slot first", x.paste(4, 0, 1, 0, 0), -2);
        due("73 no such slot first", x.paste(0, 0, 4, 0, 0), -2);
        due("73 no such slot first", x.paste(-1, -1, 0, -1, -1), -2);
        Books.tear(x, 0, 1, 0, 50, 3, 50);
        due("73 the other has nothing", x.paste(0, 0, 1, 0, 1), -6);
        due("73 the other has nothing", x.paste(1, 0, 0, 0, 1), -6);
        due("73 -6 ahead of -7", x.paste(0, 9, 1, 9, 9), -6);
        x.row(1, 0, 60);
        x.row(2, 2, 60);
        x.row(3, 3, 60);
        for (int a = 0; a < 4; a++) {
            for (int b = 0; b < 4; b++) {
                due("73 width of " + a + " and " + b, x.paste(a, 0, b, 0, 1), a == b ? 0 : -8);
                due("73 width of " + a + " and " + b + " ahead of -7", x.paste(a, -1, b, 61, 99), a == b ? -7 : -8);
                due("73 width of " + a + " and " + b + ", none", x.paste(a, 0, b, 0, 0), a == b ? 0 : -8);
            }
        }
        due("73 the row stays", x.torn(0, 0), 8);
        int[][] beyond = {{0, 1, 3}, {0, 2, 2}, {2, 0, 3}, {3, 0, 2}, {4, 0, 1}, {5, 0, 0}, {0, 3, 0}, {0, 2, 1}, {-1, 0, 1},
            {0, -1, 1}, {0, 0, -1}, {0, 0, 3}, {0, 0, 5}, {-1, 0, 0}, {0, -1, 0}, {Integer.MAX_VALUE, 0, 1},
            {0, Integer.MAX_VALUE, 1}, {1, 1, Integer.MAX_VALUE}, {Integer.MIN_VALUE, 0, 1}, {0, Integer.MIN_VALUE, 1},
            {0, 0, Integer.MIN_VALUE}, {Integer.MAX_VALUE, Integer.MAX_VALUE, Integer.MAX_VALUE}, {1, 0, Integer.MAX_VALUE}};
        Books.tear(x, 1, 1, 1, 55);
        for (int[] b : beyond) {
            String call = "73 paste(0, " + b[0] + ", 1, " + b[1] + ", " + b[2] + ")";
            due(call, x.paste(0, b[0], 1, b[1], b[2]), -7);
            due(call + ": nothing happens", x.torn(1, 0), 1);
            due(call + ": nothing happens", x.date(1, 0, 0), 0);
        }
        int[][] within = {{0, 0, 0}, {4, 0, 0}, {0, 2, 0}, {4, 2, 0}};
        for (int[] w : within) {
            due("73 no numbers", x.paste(0, w[0], 1, w[1], w[2]), 0);
            due("73 no numbers", x.date(1, 0, 0), 0);
        }
        due("73 the last of each", x.paste(0, 3, 1, 1, 1), 0);
        due("73 the last of each", x.torn(1, 0), 9);
        due("73 all of the shorter", x.paste(0, 2, 1, 0, 2), 0);
        due("73 all of the shorter", x.date(1, 0, 4), 4);
        due("73 all of the shorter", x.date(1, 0, 5), 6);
        due("73 from the shorter", x.paste(1, 0, 0, 0, 2), 0);
        due("73 from the shorter", x.torn(0, 0), 9);
        due("73 what was pasted from stays", x.torn(1, 0), 9);
        overItself();
    }

    /** As they were: sixty numbers put one further on, and one back. */
    private static void overItself() {
        for (int width = 0; width < 4; width++) {
            MissingMeaning x = Books.of("book odds 0 stock 1; land; text 0; text 0; text 0; text 0; text 0; text 0;");
            long[] row = new long[60];
            for (int i = 0; i < 60; i++) {
                row[i] = i % 2 == 0 ? i / 2 % 6 : 1;
            }
            Books.tear(x, 0, width, row);
            due("73 as told", x.torn(0, 0), 1);
            due("73 all onto itself", x.paste(0, 0, 0, 0, 60), 0);
            due("73 as told", x.torn(0, 0), 1);
            due("73 two further on", x.paste(0, 0, 0, 2, 58), 0);
            due("73 two further on", x.torn(0, 0), 1);
            due("73 one too many", x.paste(0, 0, 0, 2, 59), -7);
            due("73 two further back", x.paste(0, 2, 0, 0, 58), 0);
            due("73 two further back", x.torn(0, 0), 1);
            // Were they put one by one, the first would come again and again: 0 9, then 0 0 9, then 0 9 9.
            Books.tear(x, 1, width, 0, 1, 0, 2, 0, 3);
            x.paste(1, 1, 1, 3, 3);
            Books.tear(x, 2, width, 0, 0);
            x.paste(1, 3, 2, 1, 1);
            due("73 the first of them", x.torn(2, 0), 1);
            x.paste(1, 5, 2, 1, 1);
            due("73 the third of them", x.torn(2, 0), 0);
            Books.tear(x, 1, width, 0, 9, 0, 1, 0, 2);
            x.paste(1, 2, 1, 0, 4);
            x.paste(1, 1, 2, 1, 1);
            due("73 back, the second of them", x.torn(2, 0), 1);
            x.paste(1, 3, 2, 1, 1);
            due("73 back, the fourth of them", x.torn(2, 0), 0);
            x.paste(1, 5, 2, 1, 1);
            due("73 back, what stays", x.torn(2, 0), 0);
        }
    }

    /** A book in place of another has nothing of what was laid for that one. */
    private static void behindOtherBooks() {
        MissingMeaning x = Books.of("book odds 0 stock 99;" + "sense give 99;".repeat(9) + "land; rule turn 0 1 2; rule swap 3 4;"
                + "rule turn 5 6 7; rule turn 7 8 9; text 0; text 1; text 2; text 9; text 3; text 4;");
        due("39 thirty", x.order(0), 30);
        due("11 a long round", x.round(0), 120);
        due("56 six texts", x.heirs(0, 0) == -100_000 ? 1 : 0, 0);
        due("53 four words", x.wording(0, 0, 7, 495), 4);
        Books.tell(x, "book odds 0 stock 3; sense give 4; land; rule swap 0 1; text 0; text 1; text 0 1;");
        due("39 two", x.order(0), 2);
        due("11 two", x.round(0), 2);
        due("37 two", x.cycle(0, 1), 2);
        due("56 three texts", x.heirs(0, 0), 7);
        due("58 three texts", x.greedy(0, 0), 7 - 7 + 7);
        due("53 one word", x.wording(0, 0, 1, 7), 1);
        Books.tell(x, "book odds 0 stock 3; sense give 4; land; text 0; text 1;");
        due("39 one", x.order(0), 1);
        due("56 two texts", x.heirs(0, 0), 4);
        due("57 two texts", x.takes(0, 0), 0);
        // Acts of an image are its own, whatever was done in their places since.
        x.swaps(0, 0, 1);
        x.image(0);
        x.anew();
        x.stock(77);
        due("70 back", x.back(0), 0);
        due("70 the act of the image", x.means(0, 0, 0), 1);
        due("63 the act of the image", x.undo(), 0);
        due("63 the act of the image", x.means(0, 0, 0), 0);
        due("63 not another one", x.stock(5), 3);
        x.image(1);
        x.anew();
        x.swaps(0, 1, 0);
        due("70 back", x.back(1), 0);
        due("63 the stock of the image", x.undo(), 0);
        due("63 the stock of the image", x.stock(6), 3);
        Books.tell(x, "book odds 0 stock 3;" + "sense give 4;".repeat(3) + "land; land; text 0;");
        x.swaps(1, 2, 3);
        x.image(2);
        x.anew();
        x.swaps(0, 0, 1);
        due("70 back", x.back(2), 0);
        due("63 the land of the image's act", x.undo(), 0);
        for (int w = 0; w < 4; w++) {
            due("63 the words of the image's act", x.means(0, 0, w), w);
            due("63 the words of the image's act", x.means(1, 0, w), w);
        }
    }
}
