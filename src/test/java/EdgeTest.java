/**
 * Each sentence of the document that names a boundary case, promises 1 to 47: what is empty, what
 * is full, what comes round, the first of several. Bounds of arguments are BoundsTest's, FAULTS
 * are FaultTest's.
 */
public final class EdgeTest {
    private static final Check CHECK = new Check("EdgeTest");
    private static final String STOPS = "book odds 0 stock 10; sense skip; sense stop; sense give 1; land;";

    public static void main(String[] args) {
        tape();
        books();
        stockAtItsEnds();
        skipsAndStops();
        daysOfMeanings();
        roundsOfRules();
        rounds();
        daysOfReadings();
        wholeRounds();
        onOneDay();
        allTexts();
        turns();
        pairsOfWords();
        landAndLand();
        eachByItself();
        otherLandsAndDays();
        CHECK.finish();
    }

    private static void due(String call, long got, long want) {
        CHECK.due(call, got, want);
    }

    /** Promises 2 and 3. */
    private static void tape() {
        MissingMeaning x = new MissingMeaning();
        Books.type(x, " ".repeat(560) + "book odds 2 stock 33");
        due("2 580 and 20", x.feed(0x3b202020, 0x20202020, 0x20202020, 0x20202020, 0x20202020), 600);
        due("2 full", x.feed(0x3f3f3f3f, 0x3f3f3f3f, 0x3f3f3f3f, 0x3f3f3f3f, 0x3f3f3f3f), -1);
        due("2 none came", x.book(), 1);
        due("2 a tape that was full is empty", x.feed(0, 0, 0, 0, 0), 20);
        x.end(0);
        Books.type(x, " ".repeat(560) + "book odds 2 stock 33;");
        due("2 581", x.count(8), 581);
        due("2 no part of twenty comes", x.feed(0x3f3f3f3f, 0, 0, 0, 0), -1);
        due("2 the tape stays", x.count(8), 581);
        due("2 it is as it was", x.book(), 1);
        Books.type(x, "book odds 4 stock 44; text 9;");
        due("3 nothing happens", x.end(30), -1);
        due("3 nothing happens", x.end(-1), -1);
        due("3 the first bytes alone", x.end(21), 21);
        due("3 the others do not come back", x.end(22), -1);
        due("2 behind the first bytes", x.feed(0x6c616e64, 0x3b202020, 0x20202020, 0x20202020, 0x20202020), 41);
        due("2 not behind what there was", x.book(), 2);
        due("2 a land", x.count(3), 1);
        due("3 of none", x.end(0), 0);
        due("3 none", x.end(1), -1);
        // The highest byte first, those above 127 too.
        Books.type(x, "book odds 4 stock 44;");
        x.feed(0x20202020, 0x2020ff20, 0x20202020, 0x20202020, 0x20202020);
        due("2 bytes above 127", x.book(), -4);
        due("2 their place", x.fault(1), 27);
        x.end(21);
        x.feed(0x20202020, 0x20202020, 0x20202020, 0x20202020, 0x20202080);
        due("2 the last byte", x.book(), -4);
        due("2 its place", x.fault(1), 40);
        x.end(21);
        x.feed(0x80202020, 0x20202020, 0x20202020, 0x20202020, 0x20202020);
        due("2 the first byte", x.book(), -4);
        due("2 its place", x.fault(1), 21);
    }

    /** Promises 1, 4 and 5. */
    private static void books() {
        MissingMeaning x = new MissingMeaning();
        due("5 ahead of any", x.fault(0), 0);
        due("5 ahead of any", x.fault(1), -1);
        due("4 no tape, no book", x.book(), 0);
        due("5 without", x.fault(0), 0);
        due("5 without", x.fault(1), -1);
        due("4 a book", Books.tell(x, Books.THREE), 11);
        x.row(1, 1, 2);
        x.image(2);
        x.swaps(0, 0, 1);
        x.stock(9);
        due("4 in place of it", Books.tell(x, Books.THREE), 11);
        due("4 nothing done", x.count(6), 0);
        due("4 nothing to take back", x.undo(), -5);
        due("4 meanings as told", x.means(0, 0, 0), 0);
        due("4 stock as told", x.read(0, 2, 0), 5);
        due("4 slots stay", x.count(9), 1);
        x.swaps(0, 0, 1);
        x.rate(0, 9);
        due("4 nothing told: none", x.book(), 0);
        due("4 acts are gone with it", x.count(6), 0);
        due("4 no acts", x.undo(), -2);
        due("4 slots stay", x.count(9), 1);
        due("4 images stay", x.back(2), 0);
        due("4 the book of the image", x.count(7), 11);
        due("4 a rate", x.rate(0, 7), 1);
        due("4 the book again", Books.tell(x, Books.THREE), 11);
        due("4 a rate as told", x.sense(0, 1), 1);
        // A smaller book in place of a full one has nothing of it.
        Books.tell(x, Books.FULL);
        due("4 one line", Books.tell(x, "book odds 0 stock 1;"), 1);
        for (int what = 2; what <= 6; what++) {
            due("4 count(" + what + ")", x.count(what), 0);
        }
        due("4 no land", x.round(0), -2);
        due("4 no text", x.word(0, 0), -2);
        due("4 no sense", x.sense(0, 0), -2);
        Books.tell(x, Books.FULL);
        due("4 one of each", Books.tell(x, "book odds 0 stock 1; sense give 2; land; text 0;"), 4);
        due("8 no rules", x.rule(0, 0, 0), -2);
        due("11 without rules", x.round(0), 1);
        due("7 one word", x.word(0, 1), -1);
        due("9 no such word", x.means(0, 0, 2), -2);
        due("18 read", x.read(0, Books.FAR, 0), 3);
        Books.tell(x, Books.FULL);
        for (int text = -1; text <= 6; text++) {
            boolean is = text >= 0 && text < 6;
            due("7 text " + text + ", place -1", x.word(text, -1), is ? -1 : -2);
            due("7 text " + text + ", place 0", x.word(text, 0), is ? text == 0 ? 0 : 9 : -2);
            due("7 text " + text + ", place 7", x.word(text, 7), is ? text == 0 ? 7 : -1 : -2);
            due("7 text " + text + ", place 8", x.word(text, 8), is ? -1 : -2);
            due("7 text " + text + ", far", x.word(text, Integer.MAX_VALUE), is ? -1 : -2);
            due("7 text " + text + ", far below", x.word(text, Integer.MIN_VALUE), is ? -1 : -2);
        }
    }

    /** III: all 9,999 at most, 0 at least. */
    private static void stockAtItsEnds() {
        int[][] asDoubled = {{6, 9996}, {7, 9998}, {8, 9999}, {9, 9999}, {99, 9999}};
        int[][] asGiven = {{0, 9984}, {13, 9997}, {14, 9998}, {15, 9999}, {16, 9999}, {99, 9999}};
        String most = "book odds 0 stock 78; sense double; sense give 1; sense take 1; land;"
                + "text 0 0 0 0 0 0 1 0; text 0 0 0 0 0 0 0 1; text 0 0 0 0 0 0 0 0; text 0 0 0 0 0 0 0 2;";
        MissingMeaning x = Books.of(most);
        for (int[] d : asDoubled) {
            x.rate(1, d[0]);
            due("III twice 4,992 and " + d[0], x.read(0, 0, 0), d[1]);
        }
        for (int[] g : asGiven) {
            x.rate(1, g[0]);
            due("III 9,984 more by " + g[0], x.read(0, 0, 1), g[1]);
        }
        due("III twice 9,984", x.read(0, 0, 2), 9999);
        due("22 the most there is", x.first(0, 3, 2, 9999), 3);
        due("28 the most there is", x.days(0, 2, 9999), 1);
        due("30 the most there is", x.average(0, 2, 0), 9999);
        due("III less than 9,984", x.read(0, 0, 3), 9983);
        Books.tear(x, 0, 1, 2, 9999);
        due("48 the most there is", x.torn(0, 0), 1);
        String least = "book odds 0 stock 40; sense take 1; sense double; sense give 1; land; text 0; text 0 1; text 0 2; text 0 0;";
        x = Books.of(least);
        int[][] taken = {{0, 40, 80, 41, 40}, {1, 39, 78, 40, 38}, {39, 1, 2, 2, 0}, {40, 0, 0, 1, 0}, {41, 0, 0, 1, 0},
            {99, 0, 0, 1, 0}};
        for (int[] t : taken) {
            x.rate(0, t[0]);
            for (int text = 0; text < 4; text++) {
                due("III 40 less by " + t[0] + ", text " + text, x.read(0, 0, text), t[text + 1]);
            }
        }
        due("22 the least there is", x.first(0, Books.FAR, 0, 0), Books.FAR);
        due("30 nothing, above", x.average(0, 0, 0), 0);
        due("30 nothing, below", x.average(0, 0, 1), 1);
        Books.tear(x, 0, 0, 0, 0, 1, 0);
        due("48 the least there is", x.torn(0, 0), 1);
        due("53 the least there is", x.wording(0, 0, 7, 0), 1);
    }

    /** III, promises 18 to 20, 31 and 32: stop and skip at either end of a TEXT. */
    private static void skipsAndStops() {
        String[] texts = {"0", "1", "2", "3", "0 0", "0 1", "0 2", "0 3", "1 2", "2 1", "2 0", "3 3", "0 0 2", "0 1 2",
            "0 3 2", "3 0 2", "1 1 1", "0 0 0", "0 0 1 2", "2 0 0 2", "0 2 0 2 0 2 0 2", "2 2 2 2 2 2 2 2",
            "1 2 2 2 2 2 2 2", "2 2 2 2 2 2 2 1", "2 2 2 2 2 2 2 0", "3 3 3 3 3 3 3 3", "0 3 3 3 3 3 3 3"};
        int[][] want = {{10, 1, 0, 0, 16}, {10, 1, 0, 0, 8}, {11, 1, 0, 0, 1}, {10, 1, 0, 1, 0}, {10, 1, 1, 0, 16},
            {10, 1, 1, 0, 16}, {10, 1, 1, 0, 16}, {10, 1, 1, 2, 16}, {10, 1, 1, 0, 8}, {11, 2, 0, 0, 9}, {11, 2, 0, 0, 17},
            {10, 2, 0, 3, 0}, {11, 2, 1, 0, 17}, {11, 2, 1, 0, 17}, {11, 2, 1, 2, 17}, {10, 2, 1, 1, 16}, {10, 1, 2, 0, 8},
            {10, 2, 1, 0, 16}, {10, 2, 2, 0, 24}, {12, 3, 1, 0, 17}, {10, 4, 4, 0, 16}, {18, 8, 0, 0, 1}, {10, 1, 7, 0, 8},
            {17, 8, 0, 0, 9}, {17, 8, 0, 0, 17}, {10, 8, 0, 255, 0}, {10, 7, 1, 254, 16}};
        for (int i = 0; i < texts.length; i++) {
            MissingMeaning x = Books.of(STOPS + "text " + texts[i] + ";");
            due("18 read " + texts[i], x.read(0, 0, 0), want[i][0]);
            due("19 heard " + texts[i], x.heard(0, 0, 0), want[i][1]);
            due("31 lost " + texts[i], x.lost(0, 0, 0), want[i][2]);
            due("20 silent " + texts[i], x.silent(0, 0, 0), want[i][3]);
            due("32 kinds " + texts[i], x.kinds(0, 0, 0), want[i][4]);
        }
        MissingMeaning kinds = Books.of("book odds 0 stock 1; sense give 1; sense take 1; sense double; sense skip; sense stop;"
                + "land; text 0 1 2 3 0 4 0 5; text 5; text 4;");
        due("32 all kinds", kinds.kinds(0, 0, 0), 31);
        due("32 none", kinds.kinds(0, 0, 1), 0);
        due("32 the stop itself", kinds.kinds(0, 0, 2), 8);
    }

    /** Promises 9, 10, 12, 13, 14 and 17 where days come round. */
    private static void daysOfMeanings() {
        MissingMeaning x = Books.of(Books.TEN);
        int[] days = {0, 1, 8, 9, 10, 11, 99, 100, Books.FAR - 1, Books.FAR};
        for (int day : days) {
            for (int w = 0; w < 10; w++) {
                due("9 means(0, " + day + ", " + w + ")", x.means(0, day, w), (w + day % 10) % 10);
                due("10 says(0, " + day + ", " + w + ")", x.says(0, day, w), (w + 10 - day % 10) % 10);
            }
        }
        due("12 that day itself", x.when(0, 1, 0, 9), 9);
        due("12 the day behind it", x.when(0, 1, 0, 10), 19);
        due("12 the last day of a round", x.when(0, 1, 0, 0), 9);
        due("12 nothing", x.when(0, 0, 9, 0), 9);
        due("12 nothing at once", x.when(0, 9, 9, 0), 0);
        due("12 from the last day on", x.when(0, 0, 0, Books.FAR), Books.FAR);
        due("12 beyond the last day", x.when(0, 1, 0, Books.FAR), Books.FAR + 9);
        due("13 one day", x.often(0, 1, 0), 1);
        due("13 nothing, on one day", x.often(0, 3, 9), 1);
        due("14 all words", x.may(0, 0), 1023);
        due("14 nothing", x.may(0, 9), 1023);
        due("15 mute", x.mute(0), 1);
        due("16 the first of all", x.muted(0), 0);
        due("17 all on day 0", x.stays(0, 0), 10);
        due("17 none on the last day of a round", x.stays(0, 9), 0);
        due("17 all when it comes round", x.stays(0, 10), 10);
        due("17 all on the last day", x.stays(0, Books.FAR), 10);
        MissingMeaning rest = Books.of("book odds 0 stock 0; sense stop; land; rule rest; land; text 0;");
        for (int land = 0; land < 2; land++) {
            due("12 never", rest.when(land, 0, 1, Books.FAR), -1);
            due("12 never", rest.when(land, 1, 0, 0), -1);
            due("13 never", rest.often(land, 0, 1), 0);
            due("13 always", rest.often(land, 1, 1), 1);
            due("14 one word", rest.may(land, 1), 2);
            due("16 the last word", rest.muted(land), 1);
            due("17 always all", rest.stays(land, Books.FAR), 2);
        }
        MissingMeaning bare = Books.of("book odds 0 stock 0; land; rule shift 1; text 0;");
        due("9 no senses: nothing", bare.means(0, 1, 0), 0);
        due("12 no senses: nothing", bare.when(0, 0, 0, 7), 7);
        due("13 no senses: nothing", bare.often(0, 0, 0), 1);
        due("14 no senses: nothing", bare.may(0, 0), 1);
        due("15 no senses", bare.mute(0), 1);
        due("16 no senses", bare.muted(0), 0);
        due("11 no senses", bare.round(0), 1);
        due("20 no senses", bare.silent(0, 0, 0), 1);
        due("26 no senses", bare.clear(0, 0), -1);
    }

    /** II: RULE n modulo as many as the LAND has. */
    private static void roundsOfRules() {
        for (int many = 1; many <= 7; many++) {
            MissingMeaning x = Books.of("book odds 0 stock 0;" + "sense stop;".repeat(9) + "land;" + "rule rest;".repeat(many - 1)
                    + "rule shift 1; land; rule shift 1;" + "rule rest;".repeat(many - 1));
            for (int day = 0; day <= 30; day++) {
                due("II the last of " + many + " rules, day " + day, x.means(0, day, 0), day / many % 10);
                due("II the first of " + many + " rules, day " + day, x.means(1, day, 0), (day + many - 1) / many % 10);
            }
            due("II the last of " + many + " rules, far", x.means(0, Books.FAR, 0), Books.FAR / many % 10);
            due("II the first of " + many + " rules, far", x.means(1, Books.FAR, 0), (Books.FAR + many - 1) / many % 10);
            due("11 round of " + many, x.round(0), 10 * many);
            due("11 round of " + many, x.round(1), 10 * many);
        }
        // To which a rule takes a word, not from which: 0 is taken to 1, and comes to mean what 1 meant.
        MissingMeaning x = Books.of("book odds 0 stock 0; sense stop; sense stop; land; rule turn 0 1 2; land; rule shift 1;"
                + "land; rule turn 0 1 2; rule swap 0 1;");
        int[] wants = {1, 2, 0};
        for (int w = 0; w < 3; w++) {
            due("II turn", x.means(0, 1, w), wants[w]);
            due("II shift", x.means(1, 1, w), wants[w]);
        }
        int[] two = {2, 1, 0};
        for (int w = 0; w < 3; w++) {
            due("II what it means on the day ahead", x.means(2, 2, w), two[w]);
        }
    }

    /** Promise 11. */
    private static void rounds() {
        String senses = "book odds 0 stock 0;" + "sense stop;".repeat(9);
        due("11 rests", Books.of(senses + "land;" + "rule rest;".repeat(7)).round(0), 1);
        due("11 none", Books.of(senses + "land;").round(0), 1);
        due("11 one swap", Books.of(senses + "land; rule swap 0 9;").round(0), 2);
        due("11 like rules are one", Books.of(senses + "land;" + "rule swap 0 9;".repeat(7)).round(0), 2);
        due("11 like rules by turns", Books.of(senses + "land; rule swap 0 9; rule swap 0 9; rule rest; rule rest;").round(0), 4);
        due("11 a swap and its like", Books.of(senses + "land; rule swap 0 9; rule swap 9 0; rule rest;").round(0), 3);
        due("11 shift 5", Books.of(senses + "land; rule shift 5;").round(0), 2);
        due("11 shift 9", Books.of(senses + "land; rule shift 9;").round(0), 10);
        due("11 a swap that is a shift", Books.of("book odds 0 stock 0; sense stop; land; rule swap 0 1; rule shift 1;").round(0), 2);
        due("11 shift by all", Books.of("book odds 0 stock 0; sense stop; land; rule shift 2;").round(0), 1);
        MissingMeaning x = Books.of(senses + "land; rule rest; rule rest; rule rest; rule turn 0 1 2; rule swap 3 4;"
                + "rule turn 5 6 7; rule turn 7 8 9; text 9 0 3;");
        due("11 as long as can be", x.round(0), 210);
        for (int w = 0; w < 10; w++) {
            due("9 round the end", x.means(0, 210, w), w);
            due("9 round the end", x.means(0, 210 * 4_000_000, w), w);
            due("9 round the end", x.means(0, 211, w), x.means(0, 1, w));
            due("9 ahead of the end", x.means(0, 209, w), x.means(0, 419, w));
        }
        due("17 not yet", x.stays(0, 209) == 10 ? 1 : 0, 0);
        due("39 as many as can be", x.order(0), 30);
        x.swaps(0, 0, 9);
        due("11 whatever was done", x.round(0), 210);
    }

    /** Promises 21 to 24. */
    private static void daysOfReadings() {
        MissingMeaning x = Books.of(Books.TEN);
        due("21 the next day", x.again(0, 0, 0), 1);
        due("21 a round later", x.again(0, 9, 0), 19);
        due("21 over another day", x.again(0, 8, 0), 10);
        due("21 behind the last day", x.again(0, Books.FAR, 1), Books.FAR + 10);
        due("21 behind the last day", x.again(0, Books.FAR, 0), Books.FAR + 1);
        due("22 the last day of a round", x.first(0, 0, 0, 55), 9);
        due("22 that day itself", x.first(0, 9, 0, 55), 9);
        due("22 the next round", x.first(0, 10, 0, 55), 19);
        due("22 never", x.first(0, 0, 0, 54), -1);
        due("22 never", x.first(0, 0, 0, 0), -1);
        due("22 never", x.first(0, 0, 0, 9999), -1);
        due("22 the last day itself", x.first(0, Books.FAR, 1, 55), Books.FAR);
        due("22 behind the last day", x.first(0, Books.FAR, 2, 55), Books.FAR + 1);
        due("23 the last of n", x.best(0, 0, 10, 0), 9);
        due("23 one behind n", x.best(0, 0, 9, 0), 0);
        due("23 one day", x.best(0, 8, 1, 0), 8);
        due("23 two days", x.best(0, 8, 2, 0), 9);
        due("23 the first of several", x.best(0, 10, 1000, 0), 19);
        due("23 behind the last day", x.best(0, Books.FAR, 1000, 0), Books.FAR + 9);
        due("23 the last day", x.best(0, Books.FAR, 1000, 1), Books.FAR);
        due("23 one day, the last", x.best(0, Books.FAR, 1, 0), Books.FAR);
        due("24 one day", x.worst(0, 9, 1, 0), 9);
        due("24 two days", x.worst(0, 9, 2, 0), 10);
        due("24 the first of several", x.worst(0, 8, 1000, 0), 8);
        due("24 behind the last day", x.worst(0, Books.FAR, 1000, 1), Books.FAR + 1);
        due("24 one day, the last", x.worst(0, Books.FAR, 1, 1), Books.FAR);
        MissingMeaning y = Books.of(Books.THREE);
        due("24 the last of n", y.worst(0, 2, 3, 0), 4);
        due("24 one behind n", y.worst(0, 2, 2, 0), 2);
        due("23 most, not first", y.best(0, 1, 3, 0), 3);
        due("23 one behind n", y.best(0, 1, 2, 0), 2);
        due("24 least of all", y.worst(0, 0, 1000, 5), 2);
        // A round of 210 days, of which the last alone leaves more: it is within n of 210 and not of 209.
        MissingMeaning z = Books.of("book odds 0 stock 0; sense give 3;" + "sense take 0;".repeat(8) + "land;"
                + "rule rest;".repeat(6) + "rule shift 1; text 1;");
        due("23 of 63 days", z.best(0, 0, 63, 0), 0);
        due("23 of 64 days", z.best(0, 0, 64, 0), 63);
        due("24 of days with more", z.worst(0, 63, 7, 0), 63);
        due("24 and one more", z.worst(0, 63, 8, 0), 70);
        due("22 far", z.first(0, 70, 0, 3), 133);
    }

    /** Promises 25 to 30. */
    private static void wholeRounds() {
        MissingMeaning x = Books.of(Books.THREE);
        int[] sorts = {3, 3, 1, 3, 3, 3};
        for (int t = 0; t < 6; t++) {
            due("25 sorts of text " + t, x.sorts(0, t), sorts[t]);
        }
        due("25 two", Books.of(Books.TEN).sorts(0, 0), 2);
        due("26 the first day", x.clear(0, 0), 0);
        due("26 a later day", x.clear(0, 4), 1);
        due("26 one word twice", x.clear(0, 1), -1);
        due("26 nothing always", x.clear(0, 2), -1);
        MissingMeaning last = Books.of("book odds 0 stock 0;" + "sense stop;".repeat(8) + "land; rule shift 1;"
                + "text 1 2 3 4 5 6 7 8; text 8; text 0 1 2 3 4 5 6 7;");
        due("26 the last day of a round", last.clear(0, 0), 8);
        due("26 all but the first", last.clear(0, 1), 1);
        due("26 eight words", last.clear(0, 2), 0);
        due("27 the last day of a round", x.agree(0, 0, 1), 2);
        due("27 the other way", x.agree(0, 1, 0), 2);
        due("27 the first day", x.agree(0, 2, 4), 0);
        due("27 a day between", x.agree(0, 2, 3), 1);
        due("27 never", x.agree(0, 0, 3), -1);
        due("27 one twice", x.agree(0, 5, 5), 0);
        due("28 one less", x.days(0, 2, 4), 3);
        due("28 or more", x.days(0, 2, 5), 3);
        due("28 one more", x.days(0, 2, 6), 0);
        due("28 the least", x.days(0, 0, 0), 3);
        due("28 the most", x.days(0, 0, 9999), 0);
        due("28 days(0, 0, 5)", x.days(0, 0, 5), 2);
        due("28 days(0, 0, 6)", x.days(0, 0, 6), 1);
        due("29 the same is not above", x.run(0, 2), 0);
        due("29 one day", x.run(0, 0), 1);
        MissingMeaning all = Books.of("book odds 0 stock 5; sense give 1; sense give 2; land; rule turn 0 1 2; text 0 1 2; text 0;"
                + "text 1;");
        due("29 all days of a round", all.run(0, 0), 3);
        due("29 the first days", all.run(0, 1), 2);
        due("29 the first and the last are not one", all.run(0, 2), 1);
        all.stock(99);
        due("29 above what it is now", all.run(0, 0), 3);
        MissingMeaning gap = Books.of("book odds 0 stock 5; sense give 1; sense take 0; sense give 1; sense give 1; land;"
                + "rule shift 1; text 0; text 2; text 3;");
        due("29 behind a gap", gap.run(0, 0), 2);
        due("29 ahead of a gap", gap.run(0, 1), 2);
        due("29 one, a gap, one", gap.run(0, 2), 1);
        MissingMeaning capped = Books.of("book odds 0 stock 0; sense double; land; text 0;");
        due("29 twice nothing", capped.run(0, 0), 0);
        due("30 above", x.average(0, 0, 0), 5);
        due("30 below", x.average(0, 0, 1), 1);
        due("30 above", Books.of(Books.TEN).average(0, 0, 0), 101);
        due("30 below", Books.of(Books.TEN).average(0, 0, 1), 2);
        due("30 no lower terms", all.average(0, 1, 0), 100);
        due("30 no lower terms", all.average(0, 1, 1), 1);
        all.undo();
        due("30 no lower terms", all.average(0, 1, 0), 6);
        MissingMeaning odd = Books.of("book odds 0 stock 5; sense give 2; sense take 0; land; rule turn 0 1 2; text 0;");
        due("30 thirds, above", odd.average(0, 0, 0), 17);
        due("30 thirds, below", odd.average(0, 0, 1), 3);
    }

    /** Promises 33 and 34. */
    private static void onOneDay() {
        MissingMeaning x = Books.of("book odds 0 stock 7; sense give 1; sense give 1; sense take 1; sense stop; sense double; land;"
                + "text 0; text 4 4 4 4 4 4 4 4; text 3 0; text 5 5 5 5 5 5 5 5; text 0 2; text 4 3 5;");
        due("33 the place and the word", x.better(0, 0, 0), 4);
        due("33 as much as can be: none", x.better(0, 0, 1), -1);
        due("33 ahead of a stop", x.better(0, 0, 2), 4);
        due("33 the first place of several", x.better(0, 0, 3), 4);
        due("33 a later place", x.better(0, 0, 4), 14);
        due("33 in place of a stop", x.better(0, 0, 5), 14);
        MissingMeaning like = Books.of("book odds 0 stock 7; sense take 1; sense give 1; sense give 1; sense take 9; land; text 0;"
                + "text 2 2 2 2 2 2 2 3; text 1; text 2 2 2 2 2 2 2 2;");
        due("33 the first word of several", like.better(0, 0, 0), 1);
        due("33 the last place", like.better(0, 0, 1), 71);
        due("33 the same is not more", like.better(0, 0, 2), -1);
        due("33 the same is not more", like.better(0, 0, 3), -1);
        MissingMeaning most = Books.of("book odds 0 stock 99;" + "sense take 1;".repeat(8) + "sense double; land;"
                + "text 8 8 8 8 8 8 8 9; text 9 8 8 8 8 8 8 8;");
        due("33 9,999 is the most", most.better(0, 0, 0), -1);
        due("33 9,999 is the most", most.better(0, 0, 1), -1);
        due("33 the last word", Books.of("book odds 0 stock 9;" + "sense take 1;".repeat(9) + "land; text 0 0;").better(0, 0, 0), 9);
        MissingMeaning zero = Books.of("book odds 0 stock 9; sense give 9; sense take 1; land; text 1; text 0 1;");
        due("33 the first word", zero.better(0, 0, 0), 0);
        due("33 the first word at a later place", zero.better(0, 0, 1), 10);
        due("34 the first of several", x.richest(0, 0), 1);
        due("34 one alone", Books.of(Books.TEN).richest(0, 1), 2);
        due("34 the last", Books.of(Books.TEN).richest(0, 2), 5);
        due("34 all alike: the first", Books.of(Books.TEN).richest(0, 3), 0);
        due("34 round", Books.of(Books.TEN).richest(0, Books.FAR), 1);
        MissingMeaning zeros = Books.of("book odds 0 stock 0; land; text 0; text 0;");
        due("34 all of nothing", zeros.richest(0, 0), 0);
        MissingMeaning none = Books.of("book odds 0 stock 3; land;");
        due("34 no texts", none.richest(0, Books.FAR), -1);
        due("34 no texts, no such day", none.richest(0, Books.FAR + 1), -2);
        due("34 no texts, no such land", none.richest(1, 0), -2);
        due("57 no texts", none.takes(0, Books.FAR), -1);
        due("57 no texts, no such day", none.takes(0, Books.FAR + 1), -2);
        due("56 no texts", none.heirs(0, Books.FAR), 0);
        due("56 no texts, no such day", none.heirs(0, -1), -100_000);
        due("58 no texts", none.greedy(0, Books.FAR), 0);
        due("58 no texts, no such land", none.greedy(1, 0), -100_000);
        due("35 no texts", none.all(0, Books.FAR), 3);
        none.stock(8);
        due("35 no texts: what it is at first", none.all(0, 0), 8);
    }

    /** Promise 35. */
    private static void allTexts() {
        String kinds = "book odds 0 stock 10; sense stop; sense skip; sense give 1; sense double; sense take 99; land;";
        due("35 stop ends its text alone", Books.of(kinds + "text 0 2; text 2 2; text 2 0 2; text 2;").all(0, 0), 14);
        due("35 skip ends with its text", Books.of(kinds + "text 1; text 2 2; text 2 1; text 2;").all(0, 0), 14);
        due("35 with what the one ahead left", Books.of(kinds + "text 2; text 3; text 2; text 3 3;").all(0, 0), 92);
        due("35 0 at least", Books.of(kinds + "text 4; text 2; text 4; text 3; text 2;").all(0, 0), 1);
        due("35 9,999 at most", Books.of(kinds + "text 3 3 3 3 3 3 3 3;".repeat(5) + "text 4;").all(0, 0), 9900);
        due("35 one text is as it is read", Books.of(kinds + "text 2 3;").all(0, 0), 22);
        MissingMeaning x = Books.of(Books.TEN);
        due("35 on day 0", x.all(0, 0), 60);
        due("35 on day 9", x.all(0, 9), 60);
        due("35 on day 3", x.all(0, 3), 50);
        due("35 on the last day", x.all(0, Books.FAR), 60);
    }

    /** Promises 36 to 39. */
    private static void turns() {
        MissingMeaning x = Books.of(Books.TEN + "land; rule turn 0 1 2; rule swap 3 4; rule turn 5 6 7; rule turn 7 8 9; land;");
        int[] next = {1, 2, 0, 4, 3, 6, 7, 8, 9, 5};
        for (int w = 0; w < 10; w++) {
            due("36 no turns", x.turned(0, w, 0), w);
            due("36 one turn", x.turned(0, w, 1), (w + 1) % 10);
            due("36 nine turns", x.turned(0, w, 9), (w + 9) % 10);
            due("36 ten turns", x.turned(0, w, 10), w);
            due("36 all turns", x.turned(0, w, Books.FAR), w);
            due("36 all turns but one", x.turned(0, w, Books.FAR - 1), (w + 9) % 10);
            due("37 cycle", x.cycle(0, w), 10);
            due("37 cycle", x.cycle(1, w), w < 3 ? 3 : w < 5 ? 2 : 5);
            due("37 without rules", x.cycle(2, w), 1);
            due("36 without rules", x.turned(2, w, Books.FAR), w);
            int at = w;
            for (int n = 0; n <= 31; n++) {
                due("36 turn by turn", x.turned(1, w, n), at);
                at = next[at];
            }
        }
        due("36 by the last rule, then by the one ahead", x.turned(1, 7, 1), 8);
        due("36 by the last rule, then by the one ahead", x.turned(1, 9, 1), 5);
        due("36 by the last rule, then by the one ahead", x.turned(1, 6, 1), 7);
        due("38 none", x.fixed(0), 0);
        due("38 none", x.fixed(1), 0);
        due("38 all", x.fixed(2), 1023);
        due("39 ten", x.order(0), 10);
        due("39 thirty", x.order(1), 30);
        due("39 one", x.order(2), 1);
        MissingMeaning undone = Books.of("book odds 0 stock 0; sense stop; sense stop; land; rule shift 1; rule shift 2;"
                + "land; rule swap 0 1; rule swap 0 1; rule swap 1 2;");
        due("39 a turn that does nothing", undone.order(0), 1);
        due("38 a turn that does nothing", undone.fixed(0), 7);
        due("37 a turn that does nothing", undone.cycle(0, 0), 1);
        due("11 a round of it", undone.round(0), 2);
        due("38 one", undone.fixed(1), 1);
        due("39 two", undone.order(1), 2);
        due("38 no senses", Books.of("book odds 0 stock 0; land; rule shift 1;").fixed(0), 1);
        due("39 no senses", Books.of("book odds 0 stock 0; land; rule shift 1;").order(0), 1);
        due("36 no senses", Books.of("book odds 0 stock 0; land; rule shift 1;").turned(0, 0, Books.FAR), 0);
        due("37 no senses", Books.of("book odds 0 stock 0; land; rule shift 1;").cycle(0, 0), 1);
        undone.swaps(1, 0, 2);
        due("36 whatever was done", undone.turned(1, 0, 1), 0);
        due("38 whatever was done", undone.fixed(1), 1);
    }

    /** Promise 40: shift 1 of ten makes nine pairs more a day, modulo two. */
    private static void pairsOfWords() {
        MissingMeaning x = Books.of(Books.TEN);
        int[] want = {1, 0, 1, 0, 1, 0, 1, 0, 1, 0, 1};
        for (int day = 0; day <= 10; day++) {
            due("40 day " + day, x.even(0, day), want[day]);
        }
        due("40 the last day", x.even(0, Books.FAR), 1);
        due("40 the last day but one", x.even(0, Books.FAR - 1), 0);
        MissingMeaning two = Books.of("book odds 0 stock 0; sense stop; land; rule swap 0 1;");
        due("40 no pair", two.even(0, 0), 1);
        due("40 nothing is greatest", two.even(0, 1), 0);
        MissingMeaning bare = Books.of("book odds 0 stock 0; land;");
        due("40 one word", bare.even(0, Books.FAR), 1);
    }

    /** Promises 41 to 47. */
    private static void landAndLand() {
        MissingMeaning x = Books.of(Books.TEN + "land; rule shift 9; land;");
        due("41 none", x.otherwise(0, 0, 1), 0);
        due("41 all", x.otherwise(0, 1, 1), 10);
        due("41 half a round: none", x.otherwise(0, 5, 1), 0);
        due("41 the last day", x.otherwise(0, Books.FAR, 2), 0);
        due("41 the same land", x.otherwise(1, 3, 1), 0);
        due("42 the last day of a round", x.like(0, 1, 1), 9);
        due("42 the first day", x.like(0, 0, 1), 0);
        due("42 of the same: the first", x.like(0, 17, 0), 7);
        due("42 of the same, the last day", x.like(0, Books.FAR, 0), 0);
        due("42 never", x.like(0, 1, 2), -1);
        due("42 round", x.like(0, 10, 2), 0);
        due("43 the same day", x.carry(0, 3, 4, 0, 3), 4);
        due("43 to another day", x.carry(0, 0, 0, 0, 9), 1);
        due("43 nothing", x.carry(0, 0, 9, 1, 9), 8);
        due("43 the last days", x.carry(2, Books.FAR, 7, 0, Books.FAR), 7);
        due("44 as it was", x.carried(0, 9, 0, 1, 3), 55);
        due("44 the last days", x.carried(0, Books.FAR, 0, 1, Books.FAR), 50);
        due("45 the first day on which", x.differ(0, 1), 1);
        due("46 the first word", x.differs(0, 1), 0);
        due("47 one day", x.alike(0, 1, 1), 1);
        due("47 five days", x.alike(0, 1, 5), 1);
        due("47 six days", x.alike(0, 1, 6), 2);
        due("47 all days", x.alike(0, 1, 10_000), 2000);
        due("47 with one that rests", x.alike(0, 2, 10_000), 1000);
        due("47 with one that rests", x.alike(2, 0, 11), 2);
        due("47 one twice", x.alike(1, 1, 10_000), 10_000);
        String senses = "book odds 0 stock 0;" + "sense stop;".repeat(9);
        MissingMeaning late = Books.of(senses + "land;" + "rule shift 1;".repeat(6) + "rule swap 8 9; land;"
                + "rule shift 1;".repeat(6) + "rule swap 9 7; land;" + "rule shift 1;".repeat(7));
        due("45 behind the seventh rule", late.differ(0, 1), 7);
        due("46 the first of the words", late.differs(0, 1), 7);
        due("45 the other way", late.differ(1, 0), 7);
        due("46 with the third", late.differs(2, 0), 0);
        due("45 with the third", late.differ(2, 0), 7);
        due("46 one twice", late.differs(2, 2), -1);
        due("45 one twice", late.differ(2, 2), -1);
        MissingMeaning same = Books.of(senses + "land;" + "rule swap 8 9;".repeat(7) + "land; rule swap 9 8; land; rule swap 8 9;"
                + "rule swap 8 9;");
        due("45 other rules, never", same.differ(0, 1), -1);
        due("46 other rules, never", same.differs(1, 2), -1);
        due("47 other rules, always", same.alike(0, 2, 10_000), 10_000);
        // The words differ on the last of seven days alone, and on each seventh from then on.
        MissingMeaning seventh = Books.of(senses + "land;" + "rule rest;".repeat(5) + "rule swap 0 9; rule swap 0 9; land;");
        due("45 the seventh day", seventh.differ(0, 1), 6);
        due("46 its first word", seventh.differs(0, 1), 0);
        due("45 the seventh day, the other way", seventh.differ(1, 0), 6);
        due("46 its first word, the other way", seventh.differs(1, 0), 0);
        due("47 six days", seventh.alike(0, 1, 6), 6);
        due("47 seven days", seventh.alike(0, 1, 7), 6);
        due("47 eight days", seventh.alike(0, 1, 8), 7);
        due("47 all days", seventh.alike(1, 0, 10_000), 10_000 - 1428);
        due("41 the seventh day", seventh.otherwise(0, 6, 1), 2);
        seventh.swaps(0, 0, 9);
        due("45 by acts", seventh.differ(0, 1), 0);
        due("47 by acts", seventh.alike(0, 1, 7), 1);
        due("42 by acts", seventh.like(1, 0, 0), 6);
    }

    /** Answers that rest on one search are each right as the first that is asked. */
    private static void eachByItself() {
        String book = "book odds 0 stock 0; sense stop; sense give 1; land; text 0 1 1 1; text 1 0 1 1; text 1 1 1 1;";
        due("54 asked alone", Books.of(book).worded(0, 0, 7, 3, 2), 1);
        due("54 asked alone", Books.of(book).worded(0, 0, 7, 3, 3), -1);
        due("55 asked alone", Books.of(book).wordings(0, 0, 7, 3), 1);
        due("57 asked alone", Books.of(book).takes(0, 0), 2);
        due("58 asked alone", Books.of(book).greedy(0, 0), 4 - 1 + 0);
        due("51 asked alone", told(book).leaves(0, 0), 1);
        due("50 asked alone", told(book).ask(0, 0), -1);
        due("46 asked alone", Books.of(book).differs(0, 0), -1);
        due("16 asked alone", Books.of(book).muted(0), 2);
        MissingMeaning x = Books.of(book);
        due("53 one search", x.wording(0, 0, 1, 4), 4);
        due("54 and another", x.worded(0, 0, 1, 2, 1), 1);
        due("54 and another", x.worded(0, 0, 1, 2, 2), -1);
        due("55 and another", x.wordings(0, 0, 1, 0), 2);
        due("56 one game", x.heirs(0, 0), 3);
        x.stock(99);
        due("57 and another", x.takes(0, 0), 2);
        due("56 and another", x.heirs(0, 0), 103 - 100 + 99);
        // A stop that leaves nothing ends the reading all the same.
        x.anew();
        due("18 a stop at 0", x.read(0, 0, 0), 0);
        due("19 a stop at 0", x.heard(0, 0, 0), 1);
        due("31 a stop at 0", x.lost(0, 0, 0), 3);
        due("32 a stop at 0", x.kinds(0, 0, 0), 8);
        due("53 a stop at 0", x.wording(0, 0, 1, 1), 1);
        MissingMeaning late = Books.of("book odds 0 stock 0; sense stop; sense give 1; sense take 1; land; rule swap 0 2; text 0;");
        due("53 a stop at 0, on two days", late.wording(0, 0, 2, 1), 1);
        due("55 a stop at 0, on two days", late.wordings(0, 0, 2, 1), 1);
        MissingMeaning skip = Books.of("book odds 0 stock 0; sense skip; sense give 1; land; text 0 1 1 1; text 0 0 0 0 0 0 0 1;");
        due("18 a skip at 0", skip.read(0, 0, 0), 2);
        due("19 a skip at 0", skip.heard(0, 0, 0), 3);
        due("19 skips at 0", skip.heard(0, 0, 1), 4);
        due("18 skips at 0", skip.read(0, 0, 1), 0);
    }

    /** What is so of the first LAND and the first DAY is not so of others. */
    private static void otherLandsAndDays() {
        MissingMeaning x = Books.of(Books.TEN + "land; rule shift 9; land; rule shift 1;");
        x.swaps(2, 0, 9);
        due("17 a land with acts", x.stays(2, 0), 10);
        due("17 a land with acts, round", x.stays(2, 10), 10);
        due("17 a land with acts, a day later", x.stays(2, 1), 0);
        due("17 a land without", x.stays(0, 0), 10);
        due("43 from one land to another", x.carry(0, 1, 0, 1, 0), 1);
        due("43 from one land to another", x.carry(0, 1, 0, 1, 1), 2);
        due("43 from one land to another", x.carry(1, 1, 0, 0, 1), 8);
        due("60 another day", x.mean(0, 9, 0, 0, 0), 55);
        due("60 another day, one night", x.mean(0, 8, 0, 1, 0), 105);
        due("60 another day, one night", x.mean(0, 8, 0, 1, 1), 2);
        due("59 another day", x.chance(0, 9, 0, 0, 0), 1);
        due("59 another day, one night", x.chance(0, 8, 0, 1, 1), 2);
        MissingMeaning clear = Books.of("book odds 0 stock 0;" + "sense stop;".repeat(8) + "land; land; rule shift 1;"
                + "text 1 2 3 4 5 6 7 8; text 0 1 2 3 4 5 6 7;");
        due("26 never where all rests", clear.clear(0, 0), -1);
        due("26 the last day of a round", clear.clear(1, 0), 8);
        due("26 at once", clear.clear(0, 1), 0);
        MissingMeaning kinds = Books.of("book odds 0 stock 0; sense skip; sense give 1; land; rule swap 0 2; text 0 1; text 2 1;");
        int[][] want = {{16, 1}, {1, 16}};
        for (int day = 0; day < 4; day++) {
            for (int text = 0; text < 2; text++) {
                due("32 day " + day + ", text " + text, kinds.kinds(0, day, text), want[day % 2][text]);
                due("19 day " + day + ", text " + text, kinds.heard(0, day, text), want[day % 2][text] == 1 ? 2 : 1);
            }
        }
        MissingMeaning late = Books.of("book odds 0 stock 0;" + "sense stop;".repeat(9) + "land; land;" + "rule swap 0 9;".repeat(6)
                + "rule rest; land; rule swap 0 9;");
        due("45 the eighth day of two lands", late.differ(1, 2), 7);
        due("45 the eighth day, the other way", late.differ(2, 1), 7);
        due("46 its first word", late.differs(1, 2), 0);
        due("45 with one that rests", late.differ(0, 2), 1);
        MissingMeaning greedy = Books.of("book odds 0 stock 0; sense give 9; land; rule swap 0 1; text 0; text 1 1;");
        due("58 day 0", greedy.greedy(0, 0), 9 - 18);
        due("58 day 1", greedy.greedy(0, 1), 18 - 9);
        due("56 day 0", greedy.heirs(0, 0), 0);
        due("57 day 0", greedy.takes(0, 0), 1);
        due("56 day 1", greedy.heirs(0, 1), 9);
        due("57 day 1", greedy.takes(0, 1), 1);
        MissingMeaning rows = Books.of(Books.TEN);
        rows.row(0, 0, 0);
        rows.row(1, 0, 0);
        due("73 none of none", rows.paste(0, 0, 1, 0, 0), 0);
        due("73 one of none", rows.paste(0, 0, 1, 0, 1), -7);
        due("73 none of none, beyond", rows.paste(0, 1, 1, 0, 0), -7);
        due("73 none of none, beyond", rows.paste(0, 0, 1, 1, 0), -7);
    }

    private static MissingMeaning told(String book) {
        MissingMeaning x = Books.of(book);
        x.row(0, 0, 0);
        return x;
    }
}
