/** Each promise by hand: ordinary calls, the edges that the document names, wrong calls. */
public final class PromiseTest {
    private static final Check CHECK = new Check("PromiseTest");

    /**
     * LAND 0 means, from DAY 0 on: 0123, 1230, 3210, 2103, and so on round; LAND 1: 0123, 1203,
     * 2013; LAND 2: 0123. In LAND 0 the TEXTS leave 30 3 3 25, 8 18 25 6 and 33 20 0 13.
     */
    private static final String A = "book odds 3 stock 10; sense give 5; sense take 7; sense double;"
            + "land; rule shift 1; rule swap 0 2; land; rule turn 0 1 2; land;"
            + "text 0 2; text 1 3 0; text 2 2 1;";

    /** With stop and skip; on DAY 1 the WORDS mean 2 3 4 5 0 1. */
    private static final String B = "book odds 5 stock 4; sense stop; sense skip; sense give 9; sense double;"
            + "sense take 2; land; rule shift 2; text 2 1 0 3 0 2; text 5 1 2 1; text 2;";

    private static final String BARE = "book odds 10 stock 99;";
    private static final int FAR = 1_000_000_000;

    public static void main(String[] args) {
        tape();
        bookAndFault();
        shape();
        meanings();
        roundsOfMeanings();
        readings();
        daysOfReadings();
        wholeRounds();
        whatIsRead();
        textsOfADay();
        turns();
        landAndLand();
        letters();
        wordings();
        heirs();
        delays();
        acts();
        draws();
        rates();
        counts();
        images();
        rows();
        withoutBook();
        CHECK.finish();
    }

    private static void due(String call, long got, long want) {
        CHECK.due(call, got, want);
    }

    /** Promises 1 to 3. */
    private static void tape() {
        MissingMeaning x = new MissingMeaning();
        for (int what = 0; what < 10; what++) {
            due("1 count(" + what + ")", x.count(what), 0);
        }
        due("1 fault(0)", x.fault(0), 0);
        due("1 fault(1)", x.fault(1), -1);
        due("3 end(0) of nothing", x.end(0), 0);
        due("3 end(1) of nothing", x.end(1), -1);
        for (int i = 1; i <= 30; i++) {
            due("2 feed", x.feed(-1, 0, 1, Integer.MIN_VALUE, Integer.MAX_VALUE), 20 * i);
        }
        due("2 feed beyond", x.feed(0, 0, 0, 0, 0), -1);
        due("2 none came", x.count(8), 600);
        due("3 end(601)", x.end(601), -1);
        due("3 end(-1)", x.end(-1), -1);
        due("3 end(600)", x.end(600), 600);
        due("3 end(581)", x.end(581), 581);
        due("2 feed to 601", x.feed(0, 0, 0, 0, 0), -1);
        due("3 end(580)", x.end(580), 580);
        due("2 feed to 600", x.feed(0, 0, 0, 0, 0), 600);
        due("3 end(0)", x.end(0), 0);
        due("3 it has not so many", x.end(1), -1);
        // "book", " odd", "s 7 ", "stoc", "k 42" and " ;" with blanks.
        due("2 feed", x.feed(0x626f6f6b, 0x206f6464, 0x73203720, 0x73746f63, 0x6b203432), 20);
        due("2 feed", x.feed(0x203b2020, 0x20202020, 0x20202020, 0x20202020, 0x0a0a0a0a), 40);
        due("2 the highest byte first", x.book(), 1);
        due("2 odds", x.count(0), 7);
        due("2 stock", x.count(1), 42);
        Books.type(x, "book odds 1 stock 1; land; x");
        due("3 the first bytes alone", x.end(26), 26);
        due("3 book", x.book(), 2);
    }

    /** Promises 4 and 5. */
    private static void bookAndFault() {
        MissingMeaning x = Books.of(A);
        due("4 the tape is empty", x.count(8), 0);
        due("4 lines", x.count(7), 13);
        due("5 fault(0)", x.fault(0), 0);
        due("5 fault(1)", x.fault(1), -1);
        x.swaps(0, 0, 1);
        due("4 a fault", Books.tell(x, "book odds 3 stock 100;"), -4);
        due("5 fault(0)", x.fault(0), 2);
        due("5 fault(1)", x.fault(1), 18);
        due("5 fault(2)", x.fault(2), -1);
        due("5 fault(-1)", x.fault(-1), -1);
        due("4 the tape stays", x.count(8), 22);
        due("4 the book stays", x.count(7), 13);
        due("4 acts stay", x.count(6), 1);
        due("4 meanings stay", x.means(0, 0, 0), 1);
        due("4 a fault again", x.book(), -4);
        due("4 more of the tape", x.end(20), 20);
        due("4 its end is the fault's place", x.book(), -4);
        due("5 fault(0)", x.fault(0), 1);
        due("5 fault(1)", x.fault(1), 20);
        due("4 in place of another", Books.tell(x, B), 11);
        due("4 nothing done", x.count(6), 0);
        due("5 without again", x.fault(0), 0);
        due("5 without again", x.fault(1), -1);
        due("4 other senses", x.count(2), 5);
        due("4 nothing told", x.book(), 0);
        due("4 there is none", x.count(2), 0);
        due("4 there is none", x.means(0, 0, 0), -2);
        Books.tell(x, A);
        x.swaps(0, 0, 1);
        x.stock(3);
        due("4 the same again", Books.tell(x, A), 13);
        due("4 nothing done", x.means(0, 0, 0), 0);
        due("4 nothing done", x.read(0, 0, 0), 30);
        due("4 blanks alone", Books.tell(x, "  \n"), 0);
        due("4 there is none then", x.count(7), 0);
    }

    /** Promises 6 to 8. */
    private static void shape() {
        MissingMeaning x = Books.of(B);
        int[] kinds = {3, 4, 0, 2, 1};
        int[] numbers = {0, 0, 9, 0, 2};
        for (int s = 0; s < 5; s++) {
            due("6 sense(" + s + ", 0)", x.sense(s, 0), kinds[s]);
            due("6 sense(" + s + ", 1)", x.sense(s, 1), numbers[s]);
        }
        due("6 sense(5, 0)", x.sense(5, 0), -2);
        due("6 sense(-1, 0)", x.sense(-1, 0), -2);
        due("6 sense(0, 2)", x.sense(0, 2), -2);
        due("6 sense(0, -1)", x.sense(0, -1), -2);
        due("7 word(0, 0)", x.word(0, 0), 2);
        due("7 word(0, 5)", x.word(0, 5), 2);
        due("7 word(1, 0)", x.word(1, 0), 5);
        due("7 word(0, 6)", x.word(0, 6), -1);
        due("7 word(2, 1)", x.word(2, 1), -1);
        due("7 word(0, -1)", x.word(0, -1), -1);
        due("7 word(3, 0)", x.word(3, 0), -2);
        due("7 word(-1, -1)", x.word(-1, -1), -2);
        due("8 shift", x.rule(0, 0, 3), 5);
        due("8 shift round", x.rule(0, 0, 4), 0);
        due("8 no such word", x.rule(0, 0, 6), -2);
        due("8 no such rule", x.rule(0, 1, 0), -2);
        due("8 no such land", x.rule(1, 0, 0), -2);
        MissingMeaning y = Books.of("book odds 0 stock 0; sense stop; sense stop; sense stop; text 3; land; text 0;"
                + "rule swap 3 1; rule turn 2 0 3; rule rest; land; rule shift 9;");
        int[][] to = {{0, 3, 2, 1}, {3, 1, 0, 2}, {0, 1, 2, 3}};
        for (int rule = 0; rule < 3; rule++) {
            for (int w = 0; w < 4; w++) {
                due("8 rule(0, " + rule + ", " + w + ")", y.rule(0, rule, w), to[rule][w]);
            }
        }
        due("8 shift by more than there are", y.rule(1, 0, 3), 0);
        due("8 a land without rules of that number", y.rule(1, 1, 0), -2);
        due("8 rule -1", y.rule(0, -1, 0), -2);
        due("8 word -1", y.rule(0, 0, -1), -2);
        due("8 land -1", y.rule(-1, 0, 0), -2);
    }

    /** Promises 9, 10, 17. */
    private static void meanings() {
        MissingMeaning x = Books.of(A);
        int[][][] means = {{{0, 1, 2, 3}, {1, 2, 3, 0}, {3, 2, 1, 0}, {2, 1, 0, 3}},
            {{0, 1, 2, 3}, {1, 2, 0, 3}, {2, 0, 1, 3}}, {{0, 1, 2, 3}}};
        int[] bases = {0, 1, 2, 3, 4, 5, 1000, 999_999_990, 999_999_999, FAR};
        for (int land = 0; land < 3; land++) {
            for (int day : bases) {
                int[] row = means[land][day % means[land].length];
                for (int w = 0; w < 4; w++) {
                    due("9 means(" + land + ", " + day + ", " + w + ")", x.means(land, day, w), row[w]);
                    due("10 says(" + land + ", " + day + ", " + row[w] + ")", x.says(land, day, row[w]), w);
                }
            }
        }
        due("9 day", x.means(0, -1, 0), -2);
        due("9 day", x.means(0, FAR + 1, 0), -2);
        due("9 word", x.means(0, 0, 4), -2);
        due("9 word", x.means(0, 0, -1), -2);
        due("9 land", x.means(3, 0, 0), -2);
        due("9 land", x.means(-1, 0, 0), -2);
        due("10 sense", x.says(0, 0, 4), -2);
        due("10 sense", x.says(0, 0, -1), -2);
        due("10 day", x.says(0, FAR + 1, 0), -2);
        due("10 land", x.says(3, 0, 0), -2);
        int[] stay = {4, 0, 0, 2, 4};
        for (int day = 0; day < 5; day++) {
            due("17 stays(0, " + day + ")", x.stays(0, day), stay[day]);
        }
        x.swaps(0, 0, 3);
        due("17 as on day 0 by what was done", x.stays(0, 0), 4);
        due("17 land", x.stays(3, 0), -2);
        due("17 day", x.stays(0, -1), -2);
        due("17 day", x.stays(0, FAR + 1), -2);
        MissingMeaning bare = Books.of(BARE + "land; rule shift 9; text 0;");
        due("8 no senses", bare.rule(0, 0, 0), 0);
        due("9 no senses", bare.means(0, 5, 0), 0);
        due("9 no senses", bare.means(0, 5, 1), -2);
        due("10 no senses", bare.says(0, 5, 0), 0);
        due("18 no senses", bare.read(0, 5, 0), 99);
        due("6 no senses", bare.sense(0, 0), -2);
    }

    /** Promises 11 to 16. */
    private static void roundsOfMeanings() {
        MissingMeaning x = Books.of(A);
        due("11 round(0)", x.round(0), 4);
        due("11 round(1)", x.round(1), 3);
        due("11 round(2)", x.round(2), 1);
        due("11 round(3)", x.round(3), -2);
        due("11 round(-1)", x.round(-1), -2);
        String senses = "book odds 0 stock 0;" + "sense stop;".repeat(9);
        MissingMeaning y = Books.of(senses + "land; rule turn 0 1 2; rule swap 3 4; rule turn 5 6 7; rule turn 7 8 9;"
                + "rule rest; rule rest; rule rest; land;" + "rule shift 5;".repeat(7) + "land; rule rest; rule rest;");
        due("11 the longest", y.round(0), 210);
        due("11 less than the rules", y.round(1), 2);
        due("11 rest", y.round(2), 1);
        due("39 the longest", y.order(0), 30);
        due("12 when(0, 0, 3, 0)", x.when(0, 0, 3, 0), 2);
        due("12 when(0, 0, 3, 2)", x.when(0, 0, 3, 2), 2);
        due("12 when(0, 0, 3, 3)", x.when(0, 0, 3, 3), 6);
        due("12 when(1, 3, 0, 0)", x.when(1, 3, 0, 0), -1);
        due("12 a far day", x.when(0, 0, 3, FAR), FAR + 2);
        due("12 day", x.when(0, 0, 3, FAR + 1), -2);
        due("12 day", x.when(0, 0, 3, -1), -2);
        due("12 sense", x.when(0, 0, 4, 0), -2);
        due("12 word", x.when(0, 4, 0, 0), -2);
        due("12 land", x.when(3, 0, 0, 0), -2);
        due("13 often(0, 0, 3)", x.often(0, 0, 3), 1);
        due("13 often(0, 1, 2)", x.often(0, 1, 2), 2);
        due("13 often(0, 1, 3)", x.often(0, 1, 3), 0);
        due("13 often(1, 3, 3)", x.often(1, 3, 3), 3);
        due("13 sense", x.often(0, 0, 4), -2);
        due("13 word", x.often(0, -1, 0), -2);
        due("13 land", x.often(3, 0, 0), -2);
        due("14 may(0, 3)", x.may(0, 3), 13);
        due("14 may(1, 0)", x.may(1, 0), 7);
        due("14 may(1, 3)", x.may(1, 3), 8);
        due("14 sense", x.may(0, 4), -2);
        due("14 sense", x.may(0, -1), -2);
        due("14 land", x.may(3, 0), -2);
        due("15 mute(0)", x.mute(0), 2);
        due("15 mute(1)", x.mute(1), 3);
        due("15 mute(2)", x.mute(2), 1);
        due("15 land", x.mute(3), -2);
        due("16 muted(0)", x.muted(0), 3);
        due("16 muted(1)", x.muted(1), 3);
        due("16 land", x.muted(-1), -2);
        MissingMeaning z = Books.of("book odds 0 stock 0; sense stop; land; rule swap 0 1;");
        due("16 the first of several", z.muted(0), 0);
        due("15 of several", z.mute(0), 1);
        z = Books.of("book odds 0 stock 0; sense stop; sense stop; land;");
        z.swaps(0, 1, 2);
        due("16 by acts", z.muted(0), 1);
    }

    /** Promises 18 to 20. */
    private static void readings() {
        MissingMeaning x = Books.of(A);
        int[][] left = {{30, 3, 3, 25}, {8, 18, 25, 6}, {33, 20, 0, 13}};
        for (int text = 0; text < 3; text++) {
            for (int day = 0; day < 8; day++) {
                due("18 read(0, " + day + ", " + text + ")", x.read(0, day, text), left[text][day % 4]);
            }
            due("18 a far day", x.read(0, FAR, text), left[text][0]);
        }
        due("18 text", x.read(0, 0, 3), -2);
        due("18 text", x.read(0, 0, -1), -2);
        due("18 day", x.read(0, FAR + 1, 0), -2);
        due("18 land", x.read(3, 0, 0), -2);
        MissingMeaning most = Books.of("book odds 0 stock 99; sense double; sense give 99; sense take 99; land;"
                + "text 0 0 0 0 0 0 0 0; text 0 0 0 0 0 0 0 1; text 0 0 0 0 0 0 1 0; text 2 2 1;"
                + "text 0 0 0 0 0 0 0 2;");
        due("18 twice, 9,999 at most", most.read(0, 0, 0), 9999);
        due("18 more, 9,999 at most", most.read(0, 0, 1), 9999);
        due("18 99 * 64 + 99 twice", most.read(0, 0, 2), 9999);
        due("18 0 at least", most.read(0, 0, 3), 99);
        due("18 less from the most", most.read(0, 0, 4), 9900);
        MissingMeaning y = Books.of(B);
        due("18 skip and stop", y.read(0, 0, 0), 26);
        due("18 skip at the end", y.read(0, 0, 1), 4);
        due("18 on day 1", y.read(0, 1, 0), 20);
        MissingMeaning least = Books.of("book odds 0 stock 0; sense skip; sense stop; sense give 5; land;"
                + "text 0 2 2; text 2 1 2; text 1 2; text 0 1 2 1 2;");
        int[][] due = {{5, 2, 1}, {5, 2, 1}, {0, 1, 1}, {5, 3, 2}};
        for (int text = 0; text < 4; text++) {
            due("18 with a stock of 0", least.read(0, 0, text), due[text][0]);
            due("19 with a stock of 0", least.heard(0, 0, text), due[text][1]);
            due("31 with a stock of 0", least.lost(0, 0, text), due[text][2]);
        }
        due("19 heard(0, 0, 0)", y.heard(0, 0, 0), 4);
        due("19 heard(0, 0, 1)", y.heard(0, 0, 1), 3);
        due("19 heard(0, 1, 0)", y.heard(0, 1, 0), 6);
        due("19 text", y.heard(0, 0, 3), -2);
        due("19 day", y.heard(0, -1, 0), -2);
        due("19 land", y.heard(1, 0, 0), -2);
        due("20 silent(0, 0, 0)", y.silent(0, 0, 0), 0);
        due("20 silent(0, 0, 1)", y.silent(0, 0, 1), 1);
        due("20 silent(0, 1, 0)", y.silent(0, 1, 0), 8);
        MissingMeaning unread = Books.of("book odds 0 stock 0; sense stop; land; text 1 0 1 1;");
        due("20 read or not", unread.silent(0, 0, 0), 13);
        due("20 text", y.silent(0, 0, -1), -2);
        due("20 day", y.silent(0, FAR + 1, 0), -2);
        due("20 land", y.silent(1, 0, 0), -2);
    }

    /** Promises 21 to 24. */
    private static void daysOfReadings() {
        MissingMeaning x = Books.of(A);
        due("21 again(0, 0, 0)", x.again(0, 0, 0), 4);
        due("21 again(0, 1, 0)", x.again(0, 1, 0), 2);
        due("21 again(0, 2, 0)", x.again(0, 2, 0), 5);
        due("21 again(2, 7, 0)", x.again(2, 7, 0), 8);
        due("21 a far day", x.again(0, FAR, 0), FAR + 4);
        due("21 text", x.again(0, 0, 3), -2);
        due("21 day", x.again(0, FAR + 1, 0), -2);
        due("21 land", x.again(3, 0, 0), -2);
        due("22 first(0, 0, 0, 25)", x.first(0, 0, 0, 25), 3);
        due("22 first(0, 3, 0, 25)", x.first(0, 3, 0, 25), 3);
        due("22 first(0, 4, 0, 25)", x.first(0, 4, 0, 25), 7);
        due("22 never", x.first(0, 0, 0, 99), -1);
        due("22 the least", x.first(0, 0, 2, 0), 2);
        due("22 the most", x.first(0, 0, 0, 9999), -1);
        due("22 a far day", x.first(0, FAR, 0, 25), FAR + 3);
        due("22 stock", x.first(0, 0, 0, 10_000), -2);
        due("22 stock", x.first(0, 0, 0, -1), -2);
        due("22 text", x.first(0, 0, 3, 25), -2);
        due("22 day", x.first(0, -1, 0, 25), -2);
        due("22 land", x.first(3, 0, 0, 25), -2);
        due("23 best(0, 0, 4, 0)", x.best(0, 0, 4, 0), 0);
        due("23 best(0, 1, 3, 0)", x.best(0, 1, 3, 0), 3);
        due("23 the first of several", x.best(0, 1, 2, 0), 1);
        due("23 of a thousand", x.best(0, 1, 1000, 0), 4);
        due("23 of one", x.best(0, 2, 1, 0), 2);
        due("23 a far day", x.best(0, FAR, 1000, 1), FAR + 2);
        due("23 n", x.best(0, 0, 0, 0), -2);
        due("23 n", x.best(0, 0, 1001, 0), -2);
        due("23 text", x.best(0, 0, 1, 3), -2);
        due("23 day", x.best(0, FAR + 1, 1, 0), -2);
        due("23 land", x.best(3, 0, 1, 0), -2);
        due("24 worst(0, 0, 4, 0)", x.worst(0, 0, 4, 0), 1);
        due("24 worst(0, 2, 1, 0)", x.worst(0, 2, 1, 0), 2);
        due("24 worst(0, 3, 1000, 0)", x.worst(0, 3, 1000, 0), 5);
        due("24 n", x.worst(0, 0, 0, 0), -2);
        due("24 n", x.worst(0, 0, 1001, 0), -2);
        due("24 text", x.worst(0, 0, 1, -1), -2);
        due("24 day", x.worst(0, -1, 1, 0), -2);
        due("24 land", x.worst(-1, 0, 1, 0), -2);
    }

    /** Promises 25 to 30. */
    private static void wholeRounds() {
        MissingMeaning x = Books.of(A);
        due("25 sorts(0, 0)", x.sorts(0, 0), 3);
        due("25 sorts(0, 1)", x.sorts(0, 1), 4);
        due("25 sorts(2, 0)", x.sorts(2, 0), 1);
        due("25 text", x.sorts(0, 3), -2);
        due("25 land", x.sorts(3, 0), -2);
        due("26 clear(0, 0)", x.clear(0, 0), 0);
        due("26 clear(0, 1)", x.clear(0, 1), 1);
        due("26 one word twice", x.clear(0, 2), -1);
        due("26 always nothing", x.clear(1, 1), -1);
        due("26 text", x.clear(0, 3), -2);
        due("26 land", x.clear(3, 0), -2);
        MissingMeaning y = Books.of("book odds 0 stock 5; sense give 1; sense take 1; land; rule swap 0 2;"
                + "text 0; text 1 2; text 1;");
        due("27 agree(0, 0, 1)", y.agree(0, 0, 1), 1);
        due("27 agree(0, 1, 2)", y.agree(0, 1, 2), 0);
        due("27 never", y.agree(0, 0, 2), -1);
        due("27 one twice", y.agree(0, 0, 0), 0);
        due("27 text", y.agree(0, 0, 3), -2);
        due("27 text", y.agree(0, -1, 0), -2);
        due("27 land", y.agree(1, 0, 0), -2);
        due("28 days(0, 0, 25)", x.days(0, 0, 25), 2);
        due("28 days(0, 0, 26)", x.days(0, 0, 26), 1);
        due("28 days(0, 0, 0)", x.days(0, 0, 0), 4);
        due("28 days(0, 0, 9999)", x.days(0, 0, 9999), 0);
        due("28 stock", x.days(0, 0, 10_000), -2);
        due("28 stock", x.days(0, 0, -1), -2);
        due("28 text", x.days(0, 3, 0), -2);
        due("28 land", x.days(3, 0, 0), -2);
        due("29 not round the end", x.run(0, 0), 1);
        due("29 run(0, 1)", x.run(0, 1), 2);
        due("29 run(0, 2)", x.run(0, 2), 2);
        due("29 text", x.run(0, 3), -2);
        due("29 land", x.run(3, 0), -2);
        due("30 above", x.average(0, 0, 0), 61);
        due("30 below", x.average(0, 0, 1), 4);
        due("30 lowest terms", x.average(0, 2, 0), 33);
        due("30 lowest terms", x.average(0, 2, 1), 2);
        due("30 what", x.average(0, 0, 2), -2);
        due("30 what", x.average(0, 0, -1), -2);
        due("30 text", x.average(0, 3, 0), -2);
        due("30 land", x.average(3, 0, 0), -2);
        x.stock(25);
        due("29 above the stock by acts", x.run(2, 0), 1);
        MissingMeaning none = Books.of("book odds 0 stock 0; sense stop; land; rule shift 1; text 0;");
        due("30 nothing above", none.average(0, 0, 0), 0);
        due("30 nothing below", none.average(0, 0, 1), 1);
        due("29 never above", none.run(0, 0), 0);
    }

    /** Promises 31 to 33. */
    private static void whatIsRead() {
        MissingMeaning y = Books.of(B);
        due("31 lost(0, 0, 0)", y.lost(0, 0, 0), 2);
        due("31 lost(0, 0, 1)", y.lost(0, 0, 1), 1);
        due("31 lost(0, 1, 0)", y.lost(0, 1, 0), 0);
        due("31 text", y.lost(0, 0, 3), -2);
        due("31 day", y.lost(0, -1, 0), -2);
        due("31 land", y.lost(1, 0, 0), -2);
        due("32 kinds(0, 0, 0)", y.kinds(0, 0, 0), 29);
        due("32 kinds(0, 0, 1)", y.kinds(0, 0, 1), 16);
        due("32 kinds(0, 1, 0)", y.kinds(0, 1, 0), 7);
        due("32 text", y.kinds(0, 0, 3), -2);
        due("32 day", y.kinds(0, FAR + 1, 0), -2);
        due("32 land", y.kinds(-1, 0, 0), -2);
        MissingMeaning x = Books.of(A);
        due("33 better(0, 0, 0)", x.better(0, 0, 0), 2);
        due("33 better(0, 1, 0)", x.better(0, 1, 0), 1);
        due("33 better(0, 0, 1)", x.better(0, 0, 1), 2);
        due("33 text", x.better(0, 0, 3), -2);
        due("33 day", x.better(0, -1, 0), -2);
        due("33 land", x.better(3, 0, 0), -2);
        MissingMeaning z = Books.of("book odds 0 stock 1; sense give 1; sense double; land; text 0 2; text 2;"
                + "text 1 1 1 1 1 1 1 1;");
        due("33 a later place", z.better(0, 0, 0), 11);
        due("33 the first of several", z.better(0, 0, 1), 0);
        due("33 none", z.better(0, 0, 2), -1);
    }

    /** Promises 34 and 35. */
    private static void textsOfADay() {
        MissingMeaning x = Books.of(A);
        int[] rich = {2, 2, 1, 0};
        for (int day = 0; day < 4; day++) {
            due("34 richest(0, " + day + ")", x.richest(0, day), rich[day]);
        }
        due("34 day", x.richest(0, FAR + 1), -2);
        due("34 land", x.richest(3, 0), -2);
        due("35 all(0, 0)", x.all(0, 0), 105);
        due("35 day", x.all(0, -1), -2);
        due("35 land", x.all(3, 0), -2);
        MissingMeaning none = Books.of(BARE + "land;");
        due("34 no texts", none.richest(0, 0), -1);
        due("35 no texts", none.all(0, 0), 99);
        MissingMeaning y = Books.of(B);
        due("35 a text's stop and skip end with it", y.all(0, 0), 35);
        MissingMeaning ties = Books.of(BARE + "land; text 0; text 0 0;");
        due("34 the first of several", ties.richest(0, 0), 0);
    }

    /** Promises 36 to 40. */
    private static void turns() {
        MissingMeaning x = Books.of(A);
        int[] turn = {3, 2, 1, 0};
        for (int w = 0; w < 4; w++) {
            due("36 turned(0, " + w + ", 0)", x.turned(0, w, 0), w);
            due("36 the last rule first", x.turned(0, w, 1), turn[w]);
            due("36 turned(0, " + w + ", 2)", x.turned(0, w, 2), w);
            due("36 without rules", x.turned(2, w, FAR), w);
            due("37 cycle(0, " + w + ")", x.cycle(0, w), 2);
            due("37 cycle(1, " + w + ")", x.cycle(1, w), w < 3 ? 3 : 1);
            due("37 without rules", x.cycle(2, w), 1);
        }
        due("36 turned(1, 0, FAR)", x.turned(1, 0, FAR), 1);
        due("36 turned(1, 0, FAR - 2)", x.turned(1, 0, FAR - 2), 2);
        due("36 n", x.turned(0, 0, -1), -2);
        due("36 n", x.turned(0, 0, FAR + 1), -2);
        due("36 word", x.turned(0, 4, 1), -2);
        due("36 land", x.turned(3, 0, 1), -2);
        due("37 word", x.cycle(0, 4), -2);
        due("37 word", x.cycle(0, -1), -2);
        due("37 land", x.cycle(3, 0), -2);
        due("38 fixed(0)", x.fixed(0), 0);
        due("38 fixed(1)", x.fixed(1), 8);
        due("38 fixed(2)", x.fixed(2), 15);
        due("38 land", x.fixed(3), -2);
        due("39 order(0)", x.order(0), 2);
        due("39 order(1)", x.order(1), 3);
        due("39 order(2)", x.order(2), 1);
        due("39 land", x.order(-1), -2);
        int[] even = {1, 0, 1, 0, 1};
        for (int day = 0; day < 5; day++) {
            due("40 even(0, " + day + ")", x.even(0, day), even[day]);
        }
        x.swaps(0, 0, 2);
        due("40 by acts", x.even(0, 0), 0);
        due("36 whatever was done", x.turned(0, 0, 1), 3);
        due("40 day", x.even(0, FAR + 1), -2);
        due("40 land", x.even(3, 0), -2);
    }

    /** Promises 41 to 47. */
    private static void landAndLand() {
        MissingMeaning x = Books.of(A);
        due("41 otherwise(0, 0, 1)", x.otherwise(0, 0, 1), 0);
        due("41 otherwise(0, 1, 1)", x.otherwise(0, 1, 1), 2);
        due("41 the same", x.otherwise(0, 1, 0), 0);
        due("41 other", x.otherwise(0, 1, 3), -2);
        due("41 day", x.otherwise(0, -1, 1), -2);
        due("41 land", x.otherwise(3, 1, 0), -2);
        due("42 never", x.like(0, 1, 1), -1);
        due("42 like(0, 4, 1)", x.like(0, 4, 1), 0);
        due("42 the same", x.like(1, 7, 1), 1);
        due("42 a far day", x.like(1, FAR, 1), 1);
        due("42 other", x.like(0, 1, -1), -2);
        due("42 day", x.like(0, FAR + 1, 1), -2);
        due("42 land", x.like(3, 1, 0), -2);
        due("43 carry(0, 1, 0, 1, 0)", x.carry(0, 1, 0, 1, 0), 1);
        due("43 nothing, too", x.carry(0, 0, 3, 0, 1), 2);
        due("43 a far day", x.carry(0, FAR, 3, 0, FAR), 3);
        due("43 word", x.carry(0, 0, 4, 0, 1), -2);
        due("43 day", x.carry(0, FAR + 1, 0, 0, 1), -2);
        due("43 other day", x.carry(0, 0, 0, 0, FAR + 1), -2);
        due("43 other", x.carry(0, 0, 0, 3, 1), -2);
        due("43 land", x.carry(3, 0, 0, 0, 1), -2);
        due("44 carried(0, 1, 0, 1, 1)", x.carried(0, 1, 0, 1, 1), 3);
        due("44 carried(0, 0, 2, 1, 2)", x.carried(0, 0, 2, 1, 2), 33);
        due("44 text", x.carried(0, 0, 3, 0, 1), -2);
        due("44 day", x.carried(0, -1, 0, 0, 1), -2);
        due("44 other day", x.carried(0, 0, 0, 0, -1), -2);
        due("44 other", x.carried(0, 0, 0, 3, 1), -2);
        due("44 land", x.carried(3, 0, 0, 0, 1), -2);
        due("45 differ(0, 1)", x.differ(0, 1), 1);
        due("45 one twice", x.differ(0, 0), -1);
        due("45 other", x.differ(0, 3), -2);
        due("45 land", x.differ(-1, 0), -2);
        due("46 differs(0, 1)", x.differs(0, 1), 2);
        due("46 differs(0, 2)", x.differs(0, 2), 0);
        due("46 one twice", x.differs(1, 1), -1);
        due("46 other", x.differs(0, 3), -2);
        due("46 land", x.differs(3, 0), -2);
        due("47 alike(0, 1, 1)", x.alike(0, 1, 1), 1);
        due("47 alike(0, 1, 12)", x.alike(0, 1, 12), 1);
        due("47 alike(0, 1, 13)", x.alike(0, 1, 13), 2);
        due("47 alike(0, 1, 10000)", x.alike(0, 1, 10_000), 834);
        due("47 one twice", x.alike(0, 0, 7), 7);
        due("47 n", x.alike(0, 1, 0), -2);
        due("47 n", x.alike(0, 1, 10_001), -2);
        due("47 other", x.alike(0, 3, 1), -2);
        due("47 land", x.alike(3, 0, 1), -2);
        MissingMeaning late = Books.of("book odds 0 stock 0; sense stop; sense stop; land; rule shift 1; rule shift 1;"
                + "rule shift 1; land; rule shift 1; rule shift 4; rule shift 2; land; rule shift 7;");
        due("45 a later day", late.differ(0, 1), 3);
        due("46 a later day", late.differs(0, 1), 0);
        due("45 two lands, never", late.differ(0, 2), -1);
        due("46 two lands, never", late.differs(0, 2), -1);
        late.swaps(2, 1, 2);
        due("45 by acts on day 0", late.differ(0, 2), 0);
        due("46 by acts on day 0", late.differs(0, 2), 1);
    }

    private static void tear(MissingMeaning x, int slot, int... numbers) {
        x.row(slot, 1, numbers.length);
        for (int i = 0; i < numbers.length; i++) {
            x.write(slot, i, numbers[i]);
        }
    }

    /** Promises 48 to 52. */
    private static void letters() {
        MissingMeaning x = Books.of(A);
        due("48 it has nothing", x.torn(0, 0), -6);
        due("49 it has nothing", x.date(0, 0, 0), -6);
        due("50 it has nothing", x.ask(0, 0), -6);
        due("51 it has nothing", x.leaves(0, 0), -6);
        due("52 it has nothing", x.lands(0, 0), -6);
        due("48 -2 ahead of -6", x.torn(0, 3), -2);
        due("49 -2 ahead of -6", x.date(0, 0, -1), -2);
        due("50 -2 ahead of -6", x.ask(0, -1), -2);
        due("51 -2 ahead of -6", x.leaves(0, 3), -2);
        due("52 -2 ahead of -6", x.lands(0, FAR + 1), -2);
        letter(x, new int[] {0, 3}, 2, 1, 1);
        letter(x, new int[] {0, 3, 2, 0}, 1, -1, 1);
        letter(x, new int[] {0, 3, 1, 8}, 0, -1, 0);
        letter(x, new int[] {}, 4, 1, 1);
        letter(x, new int[] {0, 3, 0, 3}, 2, 1, 1);
        tear(x, 0, 0, 3);
        due("49 date(0, 0, 0)", x.date(0, 0, 0), 1);
        due("49 date(0, 0, 2)", x.date(0, 0, 2), 2);
        due("49 date(0, 0, 3)", x.date(0, 0, 3), 5);
        due("49 a far day", x.date(0, 0, FAR), FAR + 1);
        due("49 never", x.date(0, 1, 0), -1);
        due("52 lands(0, 1)", x.lands(0, 1), 1);
        due("52 lands(0, 0)", x.lands(0, 0), 0);
        tear(x, 0, 0, 30);
        due("52 all", x.lands(0, 0), 7);
        due("52 lands(0, 3)", x.lands(0, 3), 6);
        tear(x, 0);
        due("52 of nothing told", x.lands(0, 5), 7);
        due("49 of nothing told", x.date(0, 0, 7), 7);
        int[][] wrong = {{0}, {0, 3, 1}, {3, 0}, {-1, 0}, {0, -1}, {0, 10_000}, {0, 99, 3, 0}};
        for (int[] row : wrong) {
            tear(x, 0, row);
            due("48 none such", x.torn(0, 0), -2);
            due("49 none such", x.date(0, 0, 0), -2);
            due("50 none such", x.ask(0, 0), -2);
            due("51 none such", x.leaves(0, 0), -2);
            due("52 none such", x.lands(0, 0), -2);
        }
        tear(x, 0, 0, 9_999);
        due("48 the most that can be told", x.torn(0, 0), 0);
        for (int slot = -1; slot <= 4; slot += 5) {
            due("48 slot", x.torn(slot, 0), -2);
            due("49 slot", x.date(slot, 0, 0), -2);
            due("50 slot", x.ask(slot, 0), -2);
            due("51 slot", x.leaves(slot, 0), -2);
            due("52 slot", x.lands(slot, 0), -2);
        }
        due("48 land", x.torn(0, -1), -2);
        due("49 day", x.date(0, 0, FAR + 1), -2);
        due("52 day", x.lands(0, -1), -2);
        MissingMeaning noLand = Books.of(BARE + "text 0;");
        tear(noLand, 0);
        due("52 no lands", noLand.lands(0, 0), 0);
        due("48 no lands", noLand.torn(0, 0), -2);
        noLand.row(0, 1, 1);
        due("52 no lands, not two each", noLand.lands(0, 0), -2);
        MissingMeaning again = Books.of("book odds 0 stock 9; sense take 1; sense take 1; land; rule shift 1; text 2;"
                + "text 1 1; text 0 2;");
        tear(again, 3);
        due("50 the first of several", again.ask(3, 0), 0);
        due("51 two alike at worst", again.leaves(3, 0), 2);
    }

    private static void letter(MissingMeaning x, int[] row, int torn, int ask, int leaves) {
        tear(x, 2, row);
        due("48 torn", x.torn(2, 0), torn);
        due("50 ask", x.ask(2, 0), ask);
        due("51 leaves", x.leaves(2, 0), leaves);
    }

    /** Promises 53 to 55. */
    private static void wordings() {
        MissingMeaning x = Books.of(A);
        due("53 wording(0, 0, 1, 30)", x.wording(0, 0, 1, 30), 2);
        due("54 worded 0", x.worded(0, 0, 1, 30, 0), 0);
        due("54 worded 1", x.worded(0, 0, 1, 30, 1), 2);
        due("54 no such place", x.worded(0, 0, 1, 30, 2), -1);
        due("55 wordings", x.wordings(0, 0, 1, 30), 1);
        due("53 one word", x.wording(0, 0, 1, 10), 1);
        due("54 one word", x.worded(0, 0, 1, 10, 0), 3);
        due("53 by none", x.wording(0, 0, 1, 9_999), -1);
        due("54 no such row", x.worded(0, 0, 1, 9_999, 0), -1);
        due("55 without", x.wordings(0, 0, 1, 9_999), 0);
        due("53 n", x.wording(0, 0, 0, 10), -2);
        due("53 n", x.wording(0, 0, 8, 10), -2);
        due("53 stock", x.wording(0, 0, 1, 10_000), -2);
        due("53 stock", x.wording(0, 0, 1, -1), -2);
        due("53 day", x.wording(0, FAR + 1, 1, 10), -2);
        due("53 land", x.wording(3, 0, 1, 10), -2);
        due("54 place", x.worded(0, 0, 1, 9_999, -1), -2);
        due("54 n", x.worded(0, 0, 8, 10, 0), -2);
        due("54 stock", x.worded(0, 0, 1, 10_000, 9), -2);
        due("54 day", x.worded(0, -1, 1, 10, 0), -2);
        due("54 land", x.worded(3, 0, 1, 10, 0), -2);
        due("55 n", x.wordings(0, 0, 0, 10), -2);
        due("55 stock", x.wordings(0, 0, 1, 10_000), -2);
        due("55 day", x.wordings(0, -1, 1, 10), -2);
        due("55 land", x.wordings(-1, 0, 1, 10), -2);
        // Each of two words gives 1 and 2 by turns: both of them, in either order, give 3 always.
        MissingMeaning y = Books.of("book odds 0 stock 0; sense give 1; sense give 2; land; rule swap 0 1; text 0;");
        due("53 on two days", y.wording(0, 0, 2, 3), 2);
        due("54 the least row", y.worded(0, 0, 2, 3, 0), 0);
        due("54 the least row", y.worded(0, 0, 2, 3, 1), 1);
        due("55 either order", y.wordings(0, 0, 2, 3), 2);
        due("53 on seven days", y.wording(0, FAR, 7, 6), 4);
        due("55 two of each", y.wordings(0, FAR, 7, 6), 6);
        due("54 the least row", y.worded(0, FAR, 7, 6, 2), 1);
        due("54 no such place", y.worded(0, FAR, 7, 6, 4), -1);
        due("53 on one day", y.wording(0, 1, 1, 2), 1);
        due("54 on one day", y.worded(0, 1, 1, 2, 0), 0);
        due("53 not on two", y.wording(0, 1, 2, 2), -1);
        due("53 not by five", y.wording(0, 1, 2, 9), -1);
        y.stock(3);
        due("53 from the stock by acts", y.wording(0, 0, 2, 6), 2);
    }

    /** Promises 56 to 58. */
    private static void heirs() {
        MissingMeaning x = Books.of(A);
        due("56 heirs(0, 0)", x.heirs(0, 0), 18);
        due("57 takes(0, 0)", x.takes(0, 0), 2);
        due("58 greedy(0, 0)", x.greedy(0, 0), 18);
        due("56 heirs(0, 1)", x.heirs(0, 1), 28);
        due("57 takes(0, 1)", x.takes(0, 1), 1);
        due("58 greedy(0, 1)", x.greedy(0, 1), 20);
        due("56 a far day", x.heirs(0, FAR), 18);
        due("58 a far day", x.greedy(0, FAR), 18);
        for (int day = -1; day <= FAR + 1; day += FAR + 2) {
            due("56 day", x.heirs(0, day), -100_000);
            due("57 day", x.takes(0, day), -2);
            due("58 day", x.greedy(0, day), -100_000);
        }
        due("56 land", x.heirs(3, 0), -100_000);
        due("57 land", x.takes(3, 0), -2);
        due("58 land", x.greedy(-1, 0), -100_000);
        MissingMeaning none = Books.of(BARE + "land;");
        due("56 no texts", none.heirs(0, 0), 0);
        due("57 no texts", none.takes(0, 0), -1);
        due("58 no texts", none.greedy(0, 0), 0);
        // On day 0 both leave 1, on day 1 both leave 10.
        MissingMeaning less = Books.of("book odds 0 stock 1; sense give 9; land; rule swap 0 1; text 1; text 1;");
        due("56 below 0", less.heirs(0, 0), -9);
        due("57 the first of several", less.takes(0, 0), 0);
        due("58 below 0", less.greedy(0, 0), -9);
        MissingMeaning six = Books.of(BARE + "land;" + "text 0;".repeat(6));
        due("56 six texts", six.heirs(0, 0), 0);
        due("58 six texts", six.greedy(0, 0), 0);
    }

    /** Promises 59 and 60. */
    private static void delays() {
        MissingMeaning x = Books.of(A);
        int[][] chances = {{0, 1, 1}, {1, 7, 10}, {2, 49, 100}, {3, 37, 100}};
        for (int[] c : chances) {
            due("59 chance above", x.chance(0, 0, 0, c[0], 0), c[1]);
            due("59 chance below", x.chance(0, 0, 0, c[0], 1), c[2]);
        }
        due("59 no chance", x.chance(0, 1, 0, 1, 0), 0);
        due("59 no chance", x.chance(0, 1, 0, 1, 1), 1);
        due("59 n", x.chance(0, 0, 0, 8, 0), -2);
        due("59 n", x.chance(0, 0, 0, -1, 0), -2);
        due("59 what", x.chance(0, 0, 0, 0, 2), -2);
        due("59 text", x.chance(0, 0, 3, 0, 0), -2);
        due("59 day", x.chance(0, FAR + 1, 0, 0, 0), -2);
        due("59 land", x.chance(3, 0, 0, 0, 0), -2);
        int[][] means = {{0, 30, 1}, {1, 219, 10}, {2, 1623, 100}};
        for (int[] m : means) {
            due("60 mean above", x.mean(0, 0, 0, m[0], 0), m[1]);
            due("60 mean below", x.mean(0, 0, 0, m[0], 1), m[2]);
        }
        due("60 n", x.mean(0, 0, 0, 8, 0), -2);
        due("60 n", x.mean(0, 0, 0, -1, 0), -2);
        due("60 what", x.mean(0, 0, 0, 0, -1), -2);
        due("60 text", x.mean(0, 0, -1, 0, 0), -2);
        due("60 day", x.mean(0, -1, 0, 0, 0), -2);
        due("60 land", x.mean(3, 0, 0, 0, 0), -2);
        MissingMeaning always = Books.of("book odds 10 stock 0; sense give 3; land; rule swap 0 1; text 1;");
        due("59 always late", always.chance(0, 0, 0, 7, 0), 1);
        due("59 always late", always.chance(0, 0, 0, 6, 0), 0);
        due("60 always late", always.mean(0, 0, 0, 7, 0), 3);
        MissingMeaning never = Books.of("book odds 0 stock 0; sense give 3; land; rule swap 0 1; text 1;");
        due("59 never late", never.chance(0, 1, 0, 7, 0), 1);
        due("60 never late", never.mean(0, 0, 0, 7, 0), 0);
        due("60 never late", never.mean(0, 0, 0, 7, 1), 1);
        // 9,999 if it is late by one day alone, else 98: with odds 3 in 2,470,629 of 10,000,000.
        MissingMeaning large = Books.of("book odds 3 stock 98; sense double;" + "sense take 0;".repeat(8)
                + "land; rule shift 1; text 9 9 9 9 9 9 9 9;");
        due("60 a long above", large.mean(0, 0, 0, 7, 0), 25_441_697_729L);
        due("60 below", large.mean(0, 0, 0, 7, 1), 10_000_000);
        due("59 above", large.chance(0, 0, 0, 7, 0), 2_470_629);
        due("59 below", large.chance(0, 0, 0, 7, 1), 10_000_000);
    }

    /** Promises 61 to 64. */
    private static void acts() {
        MissingMeaning x = Books.of(A);
        due("61 swaps(0, 0, 3)", x.swaps(0, 0, 3), 0);
        due("61 they changed", x.means(0, 0, 0), 3);
        due("61 they changed", x.means(0, 0, 3), 0);
        due("61 another land does not", x.means(1, 0, 0), 0);
        due("61 by what was done so far", x.swaps(0, 0, 1), 3);
        due("61 by what was done so far", x.means(0, 0, 0), 1);
        due("61 by what was done so far", x.means(0, 0, 1), 3);
        due("61 on later days", x.means(0, 1, 0), 3);
        due("61 one twice", x.swaps(0, 1, 1), -2);
        due("61 word", x.swaps(0, 4, 1), -2);
        due("61 word", x.swaps(0, 1, -1), -2);
        due("61 land", x.swaps(3, 0, 1), -2);
        due("62 stock(99)", x.stock(99), 10);
        due("62 stock(0)", x.stock(0), 99);
        due("62 as told it stays", x.count(1), 10);
        due("62 stock(100)", x.stock(100), -2);
        due("62 stock(-1)", x.stock(-1), -2);
        due("62 is read from", x.read(2, 0, 1), 5);
        due("68 acts", x.count(6), 4);
        due("63 undo", x.undo(), 3);
        due("63 stock as it was", x.read(2, 0, 1), 97);
        due("63 undo", x.undo(), 2);
        due("63 stock as it was", x.read(2, 0, 1), 8);
        due("63 undo", x.undo(), 1);
        due("63 meanings as they were", x.means(0, 0, 0), 3);
        due("63 meanings as they were", x.means(0, 0, 1), 1);
        due("63 undo", x.undo(), 0);
        due("63 meanings as they were", x.means(0, 0, 0), 0);
        due("63 there is none", x.undo(), -5);
        due("64 there were none", x.anew(), 0);
        for (int i = 0; i < 30; i++) {
            long was = i % 2 == 0 ? x.swaps(1, 0, i % 3 + 1) : x.stock(i);
            CHECK.that("61 an act", was >= 0);
        }
        due("61 there were 30", x.swaps(0, 0, 1), -5);
        due("62 there were 30", x.stock(1), -5);
        due("61 -2 ahead of -5", x.swaps(0, 1, 1), -2);
        due("62 -2 ahead of -5", x.stock(100), -2);
        due("68 acts", x.count(6), 30);
        due("63 undo", x.undo(), 29);
        due("62 there is room again", x.stock(1), 27);
        due("64 anew", x.anew(), 30);
        due("64 none", x.count(6), 0);
        for (int w = 0; w < 4; w++) {
            due("64 meanings as told", x.means(1, 0, w), w);
        }
        due("64 stock as told", x.stock(5), 10);
    }

    /** Promises 65 and 66. */
    private static void draws() {
        // From 1 the draws are 8 8 3 5 1 7 0.
        int[] late3 = {0, 0, 0, 0, 0, 1, 1, 2};
        int[] late5 = {0, 0, 0, 1, 1, 2, 2, 3};
        MissingMeaning x = Books.of(A);
        MissingMeaning y = Books.of(B);
        MissingMeaning all = Books.of(BARE);
        MissingMeaning none = Books.of("book odds 0 stock 0;");
        for (int n = 0; n <= 7; n++) {
            due("65 odds 3", x.drawn(1, n), late3[n]);
            due("65 odds 5", y.drawn(1, n), late5[n]);
            due("65 odds 10", all.drawn(2_000_000_000, n), n);
            due("65 odds 0", none.drawn(0, n), 0);
        }
        due("65 seed", x.drawn(-1, 0), -2);
        due("65 seed", x.drawn(2_000_000_001, 0), -2);
        due("65 n", x.drawn(0, -1), -2);
        due("65 n", x.drawn(0, 8), -2);
        due("66 late by 2 to day 2", x.luck(1, 1, 0, 0, 0), 0);
        due("66 late by 2 to day 3", x.luck(1, 1, 0, 1, 0), 1);
        for (int seed : new int[] {0, 1, 12_345, 2_000_000_000 - 19}) {
            int lucky = 0;
            for (int i = 0; i < 20; i++) {
                lucky += x.read(0, 5 + x.drawn(seed + i, 7), 1) > 10 ? 1 : 0;
                due("66 luck of seeds from one on", x.luck(seed, i + 1, 0, 5, 1), lucky);
            }
        }
        CHECK.that("66 the last seed", x.luck(2_000_000_000, 20, 0, FAR, 0) >= 0);
        due("66 n", x.luck(1, 0, 0, 0, 0), -2);
        due("66 n", x.luck(1, 21, 0, 0, 0), -2);
        due("66 seed", x.luck(-1, 1, 0, 0, 0), -2);
        due("66 seed", x.luck(2_000_000_001, 1, 0, 0, 0), -2);
        due("66 land", x.luck(1, 1, 3, 0, 0), -2);
        due("66 day", x.luck(1, 1, 0, FAR + 1, 0), -2);
        due("66 text", x.luck(1, 1, 0, 0, 3), -2);
    }

    /** Promise 67. */
    private static void rates() {
        MissingMeaning x = Books.of(A);
        due("67 rate(0, 9)", x.rate(0, 9), 5);
        due("67 from now on", x.sense(0, 1), 9);
        due("67 from now on", x.read(0, 0, 0), 38);
        due("67 rate(1, 99)", x.rate(1, 99), 7);
        due("67 rate(1, 0)", x.rate(1, 0), 99);
        due("67 is no act", x.count(6), 0);
        due("67 neither gives nor takes", x.rate(2, 1), -2);
        due("67 sense", x.rate(3, 1), -2);
        due("67 sense", x.rate(-1, 1), -2);
        due("67 n", x.rate(0, 100), -2);
        due("67 n", x.rate(0, -1), -2);
        x.stock(1);
        due("67 there were acts", x.rate(0, 1), -5);
        due("67 -2 ahead of -5", x.rate(2, 1), -2);
        due("67 it stays", x.sense(0, 1), 9);
        x.undo();
        due("67 none any more", x.rate(0, 1), 9);
        MissingMeaning y = Books.of(B);
        due("67 stop", y.rate(0, 1), -2);
        due("67 skip", y.rate(1, 1), -2);
        due("67 take", y.rate(4, 1), 2);
    }

    /** Promise 68. */
    private static void counts() {
        MissingMeaning x = Books.of(A);
        x.feed(0, 0, 0, 0, 0);
        x.row(3, 0, 0);
        x.stock(50);
        int[] want = {3, 10, 3, 3, 3, 3, 1, 13, 20, 1};
        for (int what = 0; what < 10; what++) {
            due("68 count(" + what + ")", x.count(what), want[what]);
        }
        due("68 count(10)", x.count(10), -1);
        due("68 count(-1)", x.count(-1), -1);
    }

    /** Promises 69 and 70. */
    private static void images() {
        MissingMeaning x = Books.of(A);
        for (int k = -1; k <= 3; k += 4) {
            due("69 no such k", x.image(k), -2);
            due("70 no such k", x.back(k), -2);
        }
        for (int k = 0; k < 3; k++) {
            due("70 it has nothing", x.back(k), -6);
        }
        due("69 image(0)", x.image(0), 0);
        x.swaps(0, 0, 3);
        x.stock(20);
        due("69 image(2)", x.image(2), 0);
        x.swaps(0, 1, 2);
        due("70 back(0)", x.back(0), 0);
        due("70 no acts", x.count(6), 0);
        due("70 meanings", x.means(0, 0, 0), 0);
        due("70 back(2)", x.back(2), 0);
        due("70 acts", x.count(6), 2);
        due("70 meanings", x.means(0, 0, 0), 3);
        due("70 meanings", x.means(0, 0, 1), 1);
        due("70 stock", x.all(0, 0), 145);
        due("63 of acts gone back to", x.undo(), 1);
        due("63 of acts gone back to", x.stock(7), 10);
        x.anew();
        due("70 back(2) again", x.back(2), 0);
        due("70 as the image has it", x.means(0, 0, 0), 3);
        due("4 another book", Books.tell(x, B), 11);
        x.feed(0, 0, 0, 0, 0);
        x.row(1, 1, 2);
        due("70 back(0) behind another book", x.back(0), 0);
        due("70 lines", x.count(7), 13);
        due("70 round", x.round(0), 4);
        due("70 round", x.round(1), 3);
        due("70 the tape stays", x.count(8), 20);
        due("70 slots stay", x.count(9), 1);
        x.rate(0, 77);
        due("70 a rate", x.back(0), 0);
        due("70 a rate is taken back", x.sense(0, 1), 5);
        due("70 it still has nothing", x.back(1), -6);
        MissingMeaning y = new MissingMeaning();
        due("69 no book", y.image(1), 0);
        Books.tell(y, A);
        due("70 to no book", y.back(1), 0);
        due("70 there is none", y.count(7), 0);
        due("70 there is none", y.means(0, 0, 0), -2);
    }

    /** Promises 71 to 73. */
    private static void rows() {
        MissingMeaning x = Books.of(A);
        due("71 row(4, 0, 1)", x.row(4, 0, 1), -2);
        due("71 row(-1, 0, 1)", x.row(-1, 0, 1), -2);
        due("71 row(0, 4, 1)", x.row(0, 4, 1), -2);
        due("71 row(0, -1, 1)", x.row(0, -1, 1), -2);
        due("71 row(0, 0, 61)", x.row(0, 0, 61), -2);
        due("71 row(0, 0, -1)", x.row(0, 0, -1), -3);
        due("71 -2 ahead of -3", x.row(4, 0, -1), -2);
        due("71 -2 ahead of -3", x.row(0, 4, -1), -2);
        due("68 none yet", x.count(9), 0);
        due("72 it has nothing", x.write(0, 0, 1), -6);
        due("72 no such slot", x.write(4, 0, 1), -2);
        due("72 no such slot", x.write(-1, 0, 1), -2);
        for (int width = 0; width < 4; width++) {
            due("71 row", x.row(width, width, 60), 0);
            due("72 the first", x.write(width, 0, 1), 0);
            due("72 the last", x.write(width, 59, 1), 0);
            due("72 beyond", x.write(width, 60, 1), -7);
            due("72 below", x.write(width, -1, 1), -7);
        }
        due("68 four", x.count(9), 4);
        due("71 in place of another", x.row(0, 1, 2), 0);
        due("71 all 0", x.torn(0, 0), 0);
        due("72 write", x.write(0, 1, 30), 0);
        due("72 it is there", x.torn(0, 0), 1);
        due("71 the slot stays", x.row(0, 1, -1), -3);
        due("71 the slot stays", x.torn(0, 0), 1);
        due("71 the slot stays", x.row(0, 1, 61), -2);
        due("71 the slot stays", x.torn(0, 0), 1);
        due("71 all 0", x.row(0, 1, 2), 0);
        due("71 all 0", x.torn(0, 0), 0);
        due("71 all 0", x.write(0, 1, 30), 0);
        cut(x);
        pastes(x);
    }

    /** Whether TEXT 0 left v, by a number of that width; 30 is what it left on DAY 0. */
    private static int told(MissingMeaning x, int width, long v) {
        x.row(0, width, 2);
        x.write(0, 1, v);
        return x.torn(0, 0);
    }

    private static void cut(MissingMeaning x) {
        due("72 a byte", told(x, 0, 256 + 30), 1);
        due("72 two bytes", told(x, 1, 256 + 30), 0);
        due("72 two bytes", told(x, 1, 65_536 + 30), 1);
        due("72 four bytes", told(x, 2, 65_536 + 30), -2);
        due("72 four bytes", told(x, 2, (1L << 32) + 30), 1);
        due("72 eight bytes", told(x, 3, (1L << 32) + 30), -2);
        due("72 eight bytes", told(x, 3, 30), 1);
        due("72 a byte's sign", told(x, 0, 200), -2);
        due("72 a byte's sign", told(x, 0, 127), 0);
        due("72 a byte's sign", told(x, 0, 128), -2);
        due("72 two bytes' sign", told(x, 1, 65_535), -2);
        due("72 from below", told(x, 0, -226), 1);
    }

    private static void pastes(MissingMeaning x) {
        x.row(0, 1, 4);
        for (int i = 0; i < 4; i++) {
            x.write(0, i, i == 3 ? 30 : 0);
        }
        x.row(1, 1, 2);
        due("73 paste", x.paste(0, 2, 1, 0, 2), 0);
        due("73 they are there", x.torn(1, 0), 1);
        due("73 none, at the end", x.paste(0, 4, 1, 2, 0), 0);
        due("73 none, beyond", x.paste(0, 5, 1, 0, 0), -7);
        due("73 none, beyond", x.paste(0, 0, 1, 3, 0), -7);
        due("73 too many", x.paste(0, 3, 1, 0, 2), -7);
        due("73 too many", x.paste(0, 0, 1, 1, 2), -7);
        due("73 too many", x.paste(0, 1, 1, 1, Integer.MAX_VALUE), -7);
        due("73 too far", x.paste(0, Integer.MAX_VALUE, 1, 0, 1), -7);
        due("73 too far", x.paste(0, 0, 1, Integer.MAX_VALUE, 1), -7);
        due("73 below 0", x.paste(0, -1, 1, 0, 1), -7);
        due("73 below 0", x.paste(0, 0, 1, -1, 1), -7);
        due("73 below 0", x.paste(0, 0, 1, 0, -1), -7);
        due("73 nothing happened", x.torn(1, 0), 1);
        due("73 no such slot", x.paste(4, 0, 1, 0, 1), -2);
        due("73 no such slot", x.paste(0, 0, -1, 0, 1), -2);
        MissingMeaning y = Books.of(A);
        y.row(0, 1, 4);
        y.row(1, 2, 4);
        due("73 one has nothing", y.paste(0, 0, 2, 0, 1), -6);
        due("73 one has nothing", y.paste(3, 0, 0, 0, 1), -6);
        due("73 -6 ahead of -7", y.paste(0, -1, 2, 0, 1), -6);
        due("73 not of one width", y.paste(0, 0, 1, 0, 1), -8);
        due("73 -8 ahead of -7", y.paste(0, 0, 1, 0, 9), -8);
        due("73 -2 ahead of -6", y.paste(2, 0, 4, 0, 1), -2);
        // Over itself, either way, as they were: 0 30 2 33 comes to 0 0 30 2, then to 0 30 2 2.
        int[] numbers = {0, 30, 2, 33};
        for (int i = 0; i < 4; i++) {
            y.write(0, i, numbers[i]);
        }
        due("73 as told", y.torn(0, 0), 1);
        due("73 onto itself", y.paste(0, 0, 0, 0, 4), 0);
        due("73 as told", y.torn(0, 0), 1);
        due("73 further on", y.paste(0, 0, 0, 1, 3), 0);
        due("73 30 is no text", y.torn(0, 0), -2);
        y.write(0, 0, 9);
        due("73 back", y.paste(0, 1, 0, 0, 3), 0);
        y.write(0, 3, 33);
        due("73 as told", y.torn(0, 0), 1);
    }

    /** Every promise without a BOOK: on a new object, behind an empty tape, back at an image of none. */
    private static void withoutBook() {
        MissingMeaning x = new MissingMeaning();
        due("2 without a book", x.feed(0x20202020, 0x20202020, 0x20202020, 0x20202020, 0x20202020), 20);
        due("3 without a book", x.end(7), 7);
        due("4 without a book", x.book(), 0);
        due("5 without a book", x.fault(0), 0);
        due("5 without a book", x.fault(1), -1);
        due("69 without a book", x.image(2), 0);
        for (int time = 0; time < 3; time++) {
            long[] answers = {x.sense(0, 0), x.word(0, 0), x.rule(0, 0, 0), x.means(0, 0, 0), x.says(0, 0, 0),
                x.round(0), x.when(0, 0, 0, 0), x.often(0, 0, 0), x.may(0, 0), x.mute(0), x.muted(0), x.stays(0, 0),
                x.read(0, 0, 0), x.heard(0, 0, 0), x.silent(0, 0, 0), x.again(0, 0, 0), x.first(0, 0, 0, 0),
                x.best(0, 0, 1, 0), x.worst(0, 0, 1, 0), x.sorts(0, 0), x.clear(0, 0), x.agree(0, 0, 0),
                x.days(0, 0, 0), x.run(0, 0), x.average(0, 0, 0), x.lost(0, 0, 0), x.kinds(0, 0, 0),
                x.better(0, 0, 0), x.richest(0, 0), x.all(0, 0), x.turned(0, 0, 0), x.cycle(0, 0), x.fixed(0),
                x.order(0), x.even(0, 0), x.otherwise(0, 0, 0), x.like(0, 0, 0), x.carry(0, 0, 0, 0, 0),
                x.carried(0, 0, 0, 0, 0), x.differ(0, 0), x.differs(0, 0), x.alike(0, 0, 1), x.torn(0, 0),
                x.date(0, 0, 0), x.ask(0, 0), x.leaves(0, 0), x.lands(0, 0), x.wording(0, 0, 1, 0),
                x.worded(0, 0, 1, 0, 0), x.wordings(0, 0, 1, 0), x.takes(0, 0), x.chance(0, 0, 0, 0, 0),
                x.mean(0, 0, 0, 0, 0), x.swaps(0, 0, 1), x.stock(0), x.undo(), x.anew(), x.drawn(0, 0),
                x.luck(0, 1, 0, 0, 0), x.rate(0, 0)};
            for (int i = 0; i < answers.length; i++) {
                due("without a book, answer " + i, answers[i], -2);
            }
            due("56 without a book", x.heirs(0, 0), -100_000);
            due("58 without a book", x.greedy(0, 0), -100_000);
            for (int what = 0; what < 8; what++) {
                due("68 without a book", x.count(what), 0);
            }
            due("71 without a book", x.row(0, 0, 2), 0);
            due("72 without a book", x.write(0, 0, 2), 0);
            due("73 without a book", x.paste(0, 0, 0, 1, 1), 0);
            Books.tell(x, A);
            if (time == 0) {
                due("4 without a book", Books.tell(x, ""), 0);
            } else {
                due("70 without a book", x.back(2), 0);
            }
        }
    }
}
