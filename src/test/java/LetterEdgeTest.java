import java.math.BigInteger;

/** The same for letters, wordings, heirs and delays, promises 48 to 60. */
public final class LetterEdgeTest {
    private static final Check CHECK = new Check("LetterEdgeTest");

    public static void main(String[] args) {
        letters();
        letterNumbers();
        askings();
        wordings();
        heirs();
        delays();
        CHECK.finish();
    }

    private static void due(String call, long got, long want) {
        CHECK.due(call, got, want);
    }

    /** Promises 48, 49, 52: rows that are empty, full, not two each. */
    private static void letters() {
        MissingMeaning x = Books.of(Books.TEN);
        for (int slot = 0; slot < 4; slot++) {
            due("48 nothing", x.torn(slot, 0), -6);
            due("49 nothing", x.date(slot, 0, Books.FAR), -6);
            due("50 nothing", x.ask(slot, 0), -6);
            due("51 nothing", x.leaves(slot, 0), -6);
            due("52 nothing", x.lands(slot, Books.FAR), -6);
            due("48 -2 first", x.torn(slot, 1), -2);
            due("49 -2 first", x.date(slot, 1, 0), -2);
            due("49 -2 first", x.date(slot, 0, Books.FAR + 1), -2);
            due("50 -2 first", x.ask(slot, 1), -2);
            due("51 -2 first", x.leaves(slot, -1), -2);
            due("52 -2 first", x.lands(slot, -1), -2);
            x.row(slot, slot, 0);
            due("48 nothing told: all days", x.torn(slot, 0), 10);
            due("49 nothing told: that day", x.date(slot, 0, Books.FAR), Books.FAR);
            due("52 nothing told: all lands", x.lands(slot, Books.FAR), 1);
            for (int n = 1; n <= 60; n++) {
                x.row(slot, slot, n);
                due("48 " + n + " numbers", x.torn(slot, 0), n % 2 == 0 ? 0 : -2);
            }
        }
        x = Books.of(Books.TEN);
        long[] full = new long[60];
        for (int i = 1; i < 60; i += 2) {
            full[i - 1] = i % 4 == 1 ? 0 : 3;
            full[i] = 50;
        }
        Books.tear(x, 0, 1, full);
        due("48 thirty texts", x.torn(0, 0), 8);
        due("49 from day 8 on", x.date(0, 0, 8), 8);
        due("49 from day 9 on", x.date(0, 0, 9), 10);
        due("49 from day 5 on", x.date(0, 0, 5), 6);
        x.write(0, 59, 55);
        due("48 the last number counts", x.torn(0, 0), 0);
        x.write(0, 57, 55);
        x.write(0, 59, 50);
        due("48 the last but one counts", x.torn(0, 0), 0);
        Books.tear(x, 1, 2, 0, 55);
        due("48 the last day of a round", x.torn(1, 0), 1);
        due("49 the last day of a round", x.date(1, 0, 0), 9);
        due("49 that day itself", x.date(1, 0, 9), 9);
        due("49 the next round", x.date(1, 0, 10), 19);
        due("49 behind the last day", x.date(1, 0, Books.FAR), Books.FAR + 9);
        due("52 on no other day", x.lands(1, 8), 0);
        due("52 on that day", x.lands(1, 9), 1);
        Books.tear(x, 1, 2, 0, 55, 0, 50);
        due("48 of one text two stocks", x.torn(1, 0), 0);
        due("49 never", x.date(1, 0, Books.FAR), -1);
        MissingMeaning three = Books.of(Books.TEN + "land; land; rule shift 9;");
        Books.tear(three, 0, 1, 0, 50);
        due("52 all lands", three.lands(0, 0), 7);
        Books.tear(three, 0, 1, 0, 55);
        due("52 the last land", three.lands(0, 1), 4);
        due("52 the first land", three.lands(0, 9), 1);
        due("52 none", three.lands(0, 2), 0);
        MissingMeaning none = Books.of("book odds 0 stock 0;");
        due("52 no lands, nothing", none.lands(0, 0), -6);
        none.row(0, 0, 0);
        due("52 no lands", none.lands(0, 0), 0);
        due("48 no lands", none.torn(0, 0), -2);
        none.row(0, 0, 2);
        due("52 no such text", none.lands(0, 0), -2);
        Books.tell(none, "");
        due("52 no book, a row", none.lands(0, 0), -2);
        due("52 no book, nothing", none.lands(1, 0), -2);
    }

    /** Promises 48 to 52: a number that is none such. */
    private static void letterNumbers() {
        MissingMeaning x = Books.of(Books.TEN);
        long[][] rows = {{6, 50}, {-1, 50}, {0, -1}, {0, 10_000}, {0, 50, 6, 50}, {0, 50, 5, 10_000}, {0, 50, 5, -1},
            {1L << 32, 50}, {0, (1L << 32) + 50}, {Long.MIN_VALUE, 50}, {0, Long.MIN_VALUE}, {Long.MAX_VALUE, 50},
            {0, Long.MAX_VALUE}, {(1L << 31) + 1, 50}, {0}, {0, 50, 0}, {6, 10_000, 6}, {256, 50}, {0, 65_536}};
        for (long[] row : rows) {
            Books.tear(x, 3, 3, row);
            due("48 none such", x.torn(3, 0), -2);
            due("49 none such", x.date(3, 0, 0), -2);
            due("50 none such", x.ask(3, 0), -2);
            due("51 none such", x.leaves(3, 0), -2);
            due("52 none such", x.lands(3, 0), -2);
        }
        long[][] good = {{0, 50}, {5, 50}, {0, 0}, {0, 9_999}, {5, 9_999}};
        int[] days = {9, 9, 0, 0, 0};
        for (int i = 0; i < good.length; i++) {
            for (int width = 1; width < 4; width++) {
                Books.tear(x, 3, width, good[i]);
                due("48 a number that is", x.torn(3, 0), days[i]);
                due("49 a number that is", x.date(3, 0, 0), days[i] == 0 ? -1 : i == 0 ? 0 : 0);
            }
        }
        // A row that tells of one book's texts may tell of none such of another's.
        Books.tear(x, 3, 1, 5, 50);
        Books.tell(x, "book odds 0 stock 50; land; text 0; text 0; text 0; text 0; text 0;");
        due("48 text 5 of five", x.torn(3, 0), -2);
        x.write(3, 0, 4);
        due("48 text 4 of five", x.torn(3, 0), 1);
    }

    /** Promises 50 and 51. */
    private static void askings() {
        MissingMeaning x = Books.of(Books.TEN);
        x.row(0, 1, 0);
        due("50 the first that leaves fewest", x.ask(0, 0), 4);
        due("51 nine of ten, but eight with two words", x.leaves(0, 0), 8);
        Books.tear(x, 0, 1, 4, 50);
        due("48 eight days", x.torn(0, 0), 8);
        due("50 of eight", x.ask(0, 0), 2);
        due("51 of eight", x.leaves(0, 0), 7);
        Books.tear(x, 0, 1, 0, 55);
        due("50 one day: none fewer", x.ask(0, 0), -1);
        due("51 one day", x.leaves(0, 0), 1);
        Books.tear(x, 0, 1, 0, 55, 1, 55);
        due("50 no day: none fewer", x.ask(0, 0), -1);
        due("51 no day", x.leaves(0, 0), 0);
        MissingMeaning rest = Books.of("book odds 0 stock 5; sense give 1; land; rule swap 0 1; text 0 1; text 1 0;");
        rest.row(0, 0, 0);
        due("50 no text tells", rest.ask(0, 0), -1);
        due("51 as now", rest.leaves(0, 0), 2);
        MissingMeaning none = Books.of("book odds 0 stock 5; sense give 1; land; rule swap 0 1;");
        none.row(0, 0, 0);
        due("50 no texts", none.ask(0, 0), -1);
        due("51 no texts", none.leaves(0, 0), 2);
        MissingMeaning three = Books.of(Books.THREE);
        three.row(0, 3, 0);
        due("50 the first of several", three.ask(0, 0), 0);
        due("51 one", three.leaves(0, 0), 1);
        MissingMeaning last = Books.of("book odds 0 stock 5; sense give 1; sense give 1; land; rule turn 0 1 2; text 0 1 2; text 0; text 0 1;"
                + "text 0 0 1; ");
        last.row(0, 3, 0);
        due("50 the last text", last.ask(0, 0), 3);
        due("51 the last text", last.leaves(0, 0), 1);
    }

    /** Promises 53 to 55. */
    private static void wordings() {
        MissingMeaning x = Books.of("book odds 0 stock 0; sense give 1; sense give 1; sense take 0; land; text 0;");
        int[][] want = {{0, 1, 2, 2}, {1, 1, 2, 0}, {2, 2, 4, 0}, {3, 3, 8, 0}, {4, 4, 16, 0}};
        for (int[] w : want) {
            due("53 a stock of " + w[0], x.wording(0, 0, 7, w[0]), w[1]);
            due("55 a stock of " + w[0], x.wordings(0, 0, 7, w[0]), w[2]);
            for (int i = 0; i < w[1]; i++) {
                due("54 the least row", x.worded(0, 0, 7, w[0], i), w[3]);
            }
            due("54 behind the last place", x.worded(0, 0, 7, w[0], w[1]), -1);
            due("54 far behind", x.worded(0, 0, 7, w[0], Integer.MAX_VALUE), -1);
            due("54 ahead of the first place", x.worded(0, 0, 7, w[0], -1), -2);
        }
        due("53 not by four", x.wording(0, 0, 1, 5), -1);
        due("54 not by four", x.worded(0, 0, 1, 5, 0), -1);
        due("54 not by four, ahead of the first", x.worded(0, 0, 1, 5, -1), -2);
        due("55 not by four", x.wordings(0, 0, 1, 5), 0);
        MissingMeaning seven = Books.of("book odds 0 stock 9; sense give 3;" + "sense take 0;".repeat(8) + "land;"
                + "rule rest;".repeat(6) + "rule shift 1; text 0;");
        due("53 on seven days", seven.wording(0, 0, 7, 12), 1);
        due("55 on seven days", seven.wordings(0, 0, 7, 12), 1);
        due("53 not on the seventh", seven.wording(0, 1, 7, 12), 2);
        due("55 not on the seventh", seven.wordings(0, 1, 7, 12), 2);
        due("54 not on the seventh", seven.worded(0, 1, 7, 12, 0), 0);
        due("54 not on the seventh", seven.worded(0, 1, 7, 12, 1), 9);
        due("53 on six", seven.wording(0, 1, 6, 12), 1);
        due("53 on the seventh alone", seven.wording(0, 7, 1, 12), 1);
        due("54 on the seventh alone", seven.worded(0, 7, 1, 12, 0), 9);
        due("53 the last word first", seven.wording(0, Books.FAR, 1, 9), 1);
        due("53 beyond the last day", seven.wording(0, Books.FAR, 7, 12), 2);
        MissingMeaning stops = Books.of("book odds 0 stock 9; sense skip; sense stop; sense give 1; land;");
        due("53 what is not read", stops.wording(0, 0, 1, 10), 1);
        due("55 of one word", stops.wordings(0, 0, 1, 10), 1);
        due("53 two of them", stops.wording(0, 0, 1, 11), 2);
        due("55 two of them", stops.wordings(0, 0, 1, 11), 1);
        due("53 four of them", stops.wording(0, 0, 1, 13), 4);
        due("55 stop, skip, nothing: one word", stops.wordings(0, 0, 1, 9), 3);
        due("54 the least: skip", stops.worded(0, 0, 1, 9, 0), 0);
        MissingMeaning later = Books.of("book odds 0 stock 9; sense take 99; sense give 1; sense give 5; land;");
        int[][] rows = {{11, 1, 1, -1}, {15, 1, 2, -1}, {19, 2, 2, -1}, {20, 1, 2, 2}};
        for (int[] row : rows) {
            for (int i = 1; i < row.length; i++) {
                due("54 a stock of " + row[0] + ", place " + (i - 1), later.worded(0, 0, 1, row[0], i - 1), row[i]);
            }
        }
        MissingMeaning bare = Books.of("book odds 0 stock 9; land;");
        due("53 no senses", bare.wording(0, 0, 7, 9), 1);
        due("54 no senses", bare.worded(0, 0, 7, 9, 0), 0);
        due("55 no senses", bare.wordings(0, 0, 7, 9), 1);
        due("53 no senses, another", bare.wording(0, 0, 7, 10), -1);
        MissingMeaning full = Books.of("book odds 0 stock 99;" + "sense give 99;".repeat(9) + "land; rule shift 1;");
        due("53 four of nine", full.wording(0, 0, 1, 495), 4);
        due("55 four of nine", full.wordings(0, 0, 1, 495), 6561);
        due("54 the least of them", full.worded(0, 0, 1, 495, 3), 0);
        due("53 on seven days, by none", full.wording(0, 0, 7, 495), 4);
        due("55 of those that never mean nothing then", full.wordings(0, 0, 7, 495), 81);
        due("54 the least of them", full.worded(0, 0, 7, 495, 0), 0);
        due("53 9,999", full.wording(0, 0, 7, 9999), -1);
        MissingMeaning most = Books.of("book odds 0 stock 99; sense double; land;");
        due("53 twice, four times", most.wording(0, 0, 1, 1584), 4);
    }

    /** Promises 56 to 58. */
    private static void heirs() {
        MissingMeaning x = Books.of(Books.TEN);
        // From DAY 9 on TEXTS 0 and 4 leave 55 at once, 1 and 4 on the next, 2 on the third, 5 on the fourth.
        due("58 the first of several", x.greedy(0, 9), 5 - 5 + 5 - 5);
        due("58 on the last day", x.greedy(0, Books.FAR), 0 + 5 - 5 + 5);
        MissingMeaning one = Books.of("book odds 0 stock 7; sense give 9; land; rule swap 0 1; text 0;");
        due("56 one text", one.heirs(0, 0), 16);
        due("56 one text, the next day", one.heirs(0, 1), 7);
        due("57 one text", one.takes(0, 1), 0);
        due("58 one text", one.greedy(0, 1), 7);
        MissingMeaning zero = Books.of("book odds 0 stock 0; land;" + "text 0;".repeat(6));
        due("56 of nothing", zero.heirs(0, 0), 0);
        due("57 of nothing", zero.takes(0, 0), 0);
        due("58 of nothing", zero.greedy(0, 0), 0);
        // He who takes the greater one at once leaves the other one what grows most.
        MissingMeaning wise = Books.of("book odds 0 stock 10; sense give 1; sense give 50; sense take 9; land; rule swap 1 2; rule swap 1 2;"
                + "text 0; text 2 0;");
        due("18 text 0 on day 0", wise.read(0, 0, 0), 11);
        due("18 text 1 on day 0", wise.read(0, 0, 1), 2);
        due("18 text 1 on day 1", wise.read(0, 1, 1), 61);
        due("56 the lesser one first", wise.heirs(0, 0), -9);
        due("57 the lesser one first", wise.takes(0, 0), 1);
        due("58 the greater one first", wise.greedy(0, 0), -50);
        MissingMeaning most = Books.of("book odds 0 stock 99; sense double; land; rule swap 0 1; text 0 0 0 0 0 0 0 0;"
                + "text 0 0 0 0 0 0 0 0; text 0 0 0 0 0 0 0 0; text 0 0 0 0 0 0 0 0; text 0 0 0 0 0 0 0 0; text 0 0 0 0 0 0 0 0;");
        due("56 as much as can be", most.heirs(0, 0), 3 * 9900);
        due("56 as little as can be", most.heirs(0, 1), -3 * 9900);
        due("58 as much as can be", most.greedy(0, 0), 3 * 9900);
        due("58 as little as can be", most.greedy(0, 1), -3 * 9900);
        due("57 the first of six", most.takes(0, 0), 0);
        due("56 the last day", most.heirs(0, Books.FAR), 3 * 9900);
    }

    /** Promises 59 and 60. */
    private static void delays() {
        for (int odds = 0; odds <= 10; odds++) {
            MissingMeaning x = Books.of("book odds " + odds + " stock 50; sense give 5;" + "sense take 0;".repeat(8)
                    + "land; rule shift 1; text 3; text 0; text 9; text 5 5;");
            for (int n = 0; n <= 7; n++) {
                // TEXT 0 leaves more if it is late by seven days, TEXT 1 by none, TEXT 2 by one.
                BigInteger whole = BigInteger.TEN.pow(n);
                BigInteger late = BigInteger.valueOf(odds);
                BigInteger soon = BigInteger.valueOf(10 - odds);
                delay(x, 0, n, n == 7 ? late.pow(7) : BigInteger.ZERO, whole);
                delay(x, 1, n, soon.pow(n), whole);
                delay(x, 2, n, n == 0 ? BigInteger.ZERO
                        : late.multiply(soon.pow(n - 1)).multiply(BigInteger.valueOf(n)), whole);
            }
        }
        MissingMeaning x = Books.of(Books.TEN);
        due("59 the last day, on time", x.chance(0, Books.FAR, 1, 0, 0), 1);
        due("59 the last day, one night", x.chance(0, Books.FAR, 2, 1, 0), 1);
        due("59 the last day, one night", x.chance(0, Books.FAR, 2, 1, 1), 2);
        due("60 behind the last day", x.mean(0, Books.FAR, 2, 1, 0), 105);
        due("60 behind the last day", x.mean(0, Books.FAR, 2, 1, 1), 2);
        x.stock(99);
        due("59 above what it is now", x.chance(0, 0, 1, 0, 0), 1);
        due("60 what it is now", x.mean(0, 0, 1, 0, 0), 104);
        MissingMeaning same = Books.of(Books.THREE);
        due("59 the same is not above", same.chance(0, 0, 2, 7, 0), 0);
        due("59 the same is not above", same.chance(0, 0, 2, 7, 1), 1);
        MissingMeaning zero = Books.of("book odds 5 stock 0; sense take 9; land; text 0;");
        due("60 nothing, above", zero.mean(0, 0, 0, 7, 0), 0);
        due("60 nothing, below", zero.mean(0, 0, 0, 7, 1), 1);
    }

    private static void delay(MissingMeaning x, int text, int n, BigInteger above, BigInteger below) {
        BigInteger divisor = above.gcd(below);
        due("59 above, " + n + " nights", x.chance(0, 0, text, n, 0), above.divide(divisor).longValueExact());
        due("59 below, " + n + " nights", x.chance(0, 0, text, n, 1), below.divide(divisor).longValueExact());
        BigInteger sum = below.multiply(BigInteger.valueOf(50)).add(above.multiply(BigInteger.valueOf(5)));
        divisor = sum.gcd(below);
        due("60 above, " + n + " nights", x.mean(0, 0, text, n, 0), sum.divide(divisor).longValueExact());
        due("60 below, " + n + " nights", x.mean(0, 0, text, n, 1), below.divide(divisor).longValueExact());
    }
}
