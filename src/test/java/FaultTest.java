/**
 * Term I at its edges: each bound of each number, each count that is full, each byte, each place
 * at which a tape can end, which of several FAULTS is told, and what stays behind one.
 */
public final class FaultTest {
    private static final Check CHECK = new Check("FaultTest");
    private static final String START = "book odds 5 stock 20;";
    private static final String FULL = "book odds 10 stock 99;\n" + "sense give 99;".repeat(4) + "sense double;sense stop; sense skip;"
            + "sense take 0;sense take 9;" + "land;" + "rule shift 9;".repeat(7) + "land;" + "rule rest;".repeat(7)
            + "land ;text 9;rule turn 9 0 8;" + "rule swap 9 0;".repeat(6) + "text 0 1 2 3 4 5 6 9;text 7;".repeat(2) + "text 8;";

    public static void main(String[] args) {
        numbers();
        words();
        unlikeWords();
        counts();
        wordsOfATextAndOfABook();
        bytes();
        ends();
        longest();
        spelling();
        severalFaults();
        fullTape();
        allStays();
        CHECK.finish();
    }

    private static String shown(String text) {
        return text.replace("\n", "\\n");
    }

    private static void fault(String text, int fault, int place) {
        MissingMeaning x = new MissingMeaning();
        CHECK.due("book() of " + shown(text), Books.tell(x, text), -4);
        CHECK.due("fault(0) of " + shown(text), x.fault(0), fault);
        CHECK.due("fault(1) of " + shown(text), x.fault(1), place);
        CHECK.due("the tape stays: " + shown(text), x.count(8), text.length());
        CHECK.due("no book of " + shown(text), x.count(7), 0);
    }

    /** A fault at the sign ^, which is left out. */
    private static void marked(int fault, String text) {
        fault(text.replace("^", ""), fault, text.indexOf('^'));
    }

    private static MissingMeaning good(String text) {
        MissingMeaning x = new MissingMeaning();
        int lines = (int) text.chars().filter(c -> c == ';').count();
        CHECK.due("book() of " + shown(text), Books.tell(x, text), lines);
        CHECK.due("fault(0) of " + shown(text), x.fault(0), 0);
        CHECK.due("fault(1) of " + shown(text), x.fault(1), -1);
        CHECK.due("the tape is empty behind " + shown(text), x.count(8), 0);
        CHECK.due("lines of " + shown(text), x.count(7), lines);
        return x;
    }

    /** A number that stands at # and is least .. most. */
    private static void bound(String text, int least, int most) {
        int place = text.indexOf('#');
        for (int n = 0; n <= most + 2; n++) {
            if (n >= least && n <= most) {
                good(text.replace("#", "" + n));
                good(text.replace("#", "000" + n));
                good(text.replace("#", "0".repeat(300) + n));
            } else {
                fault(text.replace("#", "" + n), 2, place);
                fault(text.replace("#", "00" + n), 2, place);
            }
        }
        String[] far = {"" + (most + 10), "" + (most + 256), "" + (most + 65_536), "2147483647", "2147483648", "4294967296",
            "4294967297", "4294967301", "9223372036854775808", "18446744073709551616", "18446744073709551617",
            "1" + "0".repeat(300), "9".repeat(300)};
        for (String n : far) {
            fault(text.replace("#", n), 2, place);
        }
        fault(text.replace("#", "-1"), 1, place);
        fault(text.replace("#", "+1"), 1, place);
        fault(text.replace("#", "x"), 1, place);
        fault(text.substring(0, place), 1, place);
    }

    /** The same, and there must be one. */
    private static void needed(String text, int least, int most) {
        bound(text, least, most);
        fault(text.replace("#", ""), 1, text.indexOf('#'));
    }

    private static void numbers() {
        needed("book odds #stock 3;", 0, 10);
        needed("book odds 3 stock #;", 0, 99);
        needed(START + "sense give #;", 0, 99);
        needed(START + "sense take #;", 0, 99);
        needed(START + "land;rule shift #;", 1, 9);
        needed(START + "sense stop;land;rule shift #;", 1, 9);
        MissingMeaning x = good("book odds 0 stock 0; sense give 0; sense take 0;");
        CHECK.due("odds 0", x.count(0), 0);
        CHECK.due("stock 0", x.count(1), 0);
        CHECK.due("give 0", x.sense(0, 1), 0);
        CHECK.due("take 0", x.sense(1, 1), 0);
        x = good("book odds 10 stock 99; sense give 99; sense take 99;");
        CHECK.due("odds 10", x.count(0), 10);
        CHECK.due("stock 99", x.count(1), 99);
        CHECK.due("give 99", x.sense(0, 1), 99);
        CHECK.due("take 99", x.sense(1, 1), 99);
    }

    /** WORDS are one more than SENSES. */
    private static void words() {
        for (int senses = 0; senses <= 9; senses++) {
            String before = START + "sense skip;".repeat(senses);
            needed(before + "text #;", 0, senses);
            bound(before + "text 0 0 #;", 0, senses);
            for (int n = 1; n <= 9; n++) {
                MissingMeaning x = good(before + "land;rule shift " + n + ";");
                for (int w = 0; w <= senses; w++) {
                    CHECK.due("shift " + n + " of " + w, x.rule(0, 0, w), (w + n) % (senses + 1));
                }
                CHECK.due("shift " + n + ", no such word", x.rule(0, 0, senses + 1), -2);
            }
        }
    }

    private static void unlikeWords() {
        for (int senses = 0; senses <= 9; senses++) {
            String before = START + "sense skip;".repeat(senses) + "land;rule ";
            for (int a = 0; a <= senses + 1; a++) {
                for (int b = 0; b <= senses + 1; b++) {
                    swap(before, senses, a, b);
                    for (int c = 0; c <= senses + 1; c++) {
                        turn(before, senses, a, b, c);
                    }
                }
            }
        }
    }

    private static void swap(String before, int senses, int a, int b) {
        if (a > senses) {
            marked(2, before + "swap ^" + a + " " + b + ";");
        } else if (b > senses || b == a) {
            marked(2, before + "swap " + a + " ^" + b + ";");
        } else {
            MissingMeaning x = good(before + "swap " + a + " " + b + ";");
            for (int w = 0; w <= senses; w++) {
                CHECK.due("swap", x.rule(0, 0, w), w == a ? b : w == b ? a : w);
            }
        }
    }

    private static void turn(String before, int senses, int a, int b, int c) {
        if (a > senses) {
            marked(2, before + "turn ^" + a + " " + b + " " + c + ";");
        } else if (b > senses || b == a) {
            marked(2, before + "turn " + a + " ^" + b + " " + c + ";");
        } else if (c > senses || c == a || c == b) {
            marked(2, before + "turn " + a + " " + b + " ^" + c + ";");
        } else {
            MissingMeaning x = good(before + "turn " + a + " " + b + " " + c + ";");
            for (int w = 0; w <= senses; w++) {
                CHECK.due("turn", x.rule(0, 0, w), w == a ? b : w == b ? c : w == c ? a : w);
            }
        }
    }

    private static void counts() {
        for (int n = 0; n <= 9; n++) {
            CHECK.due("senses", good(START + "sense stop;".repeat(n)).count(2), n);
            CHECK.due("senses ahead of a land", good(START + "sense stop;".repeat(n) + "land;").count(2), n);
            CHECK.due("senses ahead of a text", good(START + "sense stop;".repeat(n) + "text 0;").count(2), n);
            marked(1, START + "sense stop;".repeat(n) + "land;^sense stop;");
            marked(1, START + "sense stop;".repeat(n) + "text 0;^sense stop;");
            marked(1, START + "sense stop;".repeat(n) + "text 0;land;rule rest;^sense stop;");
            marked(1, START + "sense stop;".repeat(n) + "^rule rest;");
            marked(1, START + "sense stop;".repeat(n) + "text 0;^rule rest;");
        }
        marked(3, START + "sense stop;".repeat(9) + "^sense stop;");
        marked(3, START + "sense stop;".repeat(9) + "^sense 5;");
        marked(3, START + "sense stop;".repeat(9) + "^sense");
        for (int n = 0; n <= 3; n++) {
            CHECK.due("lands", good(START + "land;".repeat(n)).count(3), n);
        }
        marked(3, START + "land;".repeat(3) + "^land;");
        marked(3, START + "land;".repeat(3) + "^land");
        marked(3, START + "land;text 0;land;rule rest;land;text 0;^land;");
        for (int land = 0; land < 3; land++) {
            String before = START + ("land;" + "rule rest;".repeat(7)).repeat(land) + "land;";
            for (int n = 0; n <= 7; n++) {
                CHECK.due("rules", good(before + "rule rest;".repeat(n)).count(4), 7 * land + n);
            }
            marked(3, before + "rule rest;".repeat(7) + "^rule rest;");
            marked(3, before + "rule rest;".repeat(7) + "^rule shift 0;");
            marked(3, before + "rule rest;".repeat(3) + "text 0;" + "rule rest;".repeat(4) + "text 0;^rule rest;");
        }
        for (int n = 0; n <= 6; n++) {
            CHECK.due("texts", good(START + "text 0;".repeat(n)).count(5), n);
            CHECK.due("texts", good(START + "land;" + "text 0;rule rest;".repeat(n)).count(5), n);
        }
        marked(3, START + "text 0;".repeat(6) + "^text 0;");
        marked(3, START + "text 0;".repeat(6) + "^text 1;");
        marked(3, START + "text 0;".repeat(6) + "^text;");
        marked(3, START + "text 0;land;".repeat(3) + "text 0;".repeat(3) + "^text 0;");
        full();
    }

    /** All that a book can have, numbered as it stands. */
    private static void full() {
        MissingMeaning x = good(FULL);
        int[] want = {10, 99, 9, 3, 21, 6, 0, 40, 0, 0};
        for (int what = 0; what < 10; what++) {
            CHECK.due("count(" + what + ") of all", x.count(what), want[what]);
        }
        int[] kinds = {0, 0, 0, 0, 2, 3, 4, 1, 1};
        int[] numbers = {99, 99, 99, 99, 0, 0, 0, 0, 9};
        for (int s = 0; s < 9; s++) {
            CHECK.due("sense(" + s + ", 0) of all", x.sense(s, 0), kinds[s]);
            CHECK.due("sense(" + s + ", 1) of all", x.sense(s, 1), numbers[s]);
        }
        int[][] texts = {{9}, {0, 1, 2, 3, 4, 5, 6, 9}, {7}, {0, 1, 2, 3, 4, 5, 6, 9}, {7}, {8}};
        for (int t = 0; t < 6; t++) {
            for (int i = 0; i < texts[t].length; i++) {
                CHECK.due("word(" + t + ", " + i + ") of all", x.word(t, i), texts[t][i]);
            }
            CHECK.due("behind the last word", x.word(t, texts[t].length), -1);
        }
        for (int w = 0; w < 10; w++) {
            CHECK.due("first rule of land 0", x.rule(0, 0, w), (w + 9) % 10);
            CHECK.due("last rule of land 0", x.rule(0, 6, w), (w + 9) % 10);
            CHECK.due("last rule of land 1", x.rule(1, 6, w), w);
            CHECK.due("first rule of land 2", x.rule(2, 0, w), w == 9 ? 0 : w == 0 ? 8 : w == 8 ? 9 : w);
            CHECK.due("last rule of land 2", x.rule(2, 6, w), w == 9 ? 0 : w == 0 ? 9 : w);
        }
    }

    private static void wordsOfATextAndOfABook() {
        marked(1, START + "text^;");
        for (int n = 1; n <= 8; n++) {
            MissingMeaning x = good(START + "sense stop;text" + " 1".repeat(n) + ";");
            CHECK.due("the last word", x.word(0, n - 1), 1);
            CHECK.due("no such place", x.word(0, n), -1);
            marked(1, START + "sense stop;text" + " 1".repeat(n) + "^");
            marked(1, START + "sense stop;text" + " 1".repeat(n) + " ^x;");
            marked(2, START + "sense stop;text" + " 1".repeat(n) + " ^2;");
        }
        marked(3, START + "sense stop;text" + " 1".repeat(8) + " ^0;");
        marked(3, START + "sense stop;text" + " 1".repeat(8) + " ^1;");
        marked(3, START + "sense stop;text" + " 1".repeat(8) + " ^0001 2;");
        marked(2, START + "sense stop;text" + " 1".repeat(8) + " ^2;");
        marked(2, START + "sense stop;text" + " 1".repeat(8) + " ^99999999999999999999;");
        marked(1, START + "sense stop;text" + " 1".repeat(8) + " ^text;");
        marked(1, START + "sense stop;text" + " 1".repeat(8) + " ^?;");
        marked(1, START + "^book odds 5 stock 20;");
        marked(1, START + "land;^book odds 5 stock 20;");
        String[] heads = {"sense stop;", "land;", "rule rest;", "text 0;", "odds 5;", "stock 5;", "x;", "5;", ";", "?"};
        for (String head : heads) {
            marked(1, "^" + head);
            marked(1, " \n^" + head + START);
        }
        String[] others = {"odds 5;", "stock 5;", "give 5;", "rest;", "lands;", "lan;", "d;", "5;", ";", "?"};
        for (String other : others) {
            marked(1, START + "^" + other);
            marked(1, START + "sense stop;land;rule rest;text 0;^" + other);
        }
        String[] kinds = {"shift 1;", "rest;", "5;", ";", "giv 5;", "gives 5;", "stops;", "sense stop;", "book;"};
        for (String kind : kinds) {
            marked(1, START + "sense ^" + kind);
        }
        String[] rules = {"give 1;", "stop;", "5;", ";", "shif 1;", "shifts 1;", "rests;", "rule rest;", "land;"};
        for (String rule : rules) {
            marked(1, START + "land;rule ^" + rule);
        }
    }

    /** A fault at the first byte of the second part. */
    private static void between(int fault, String before, String from) {
        fault(before + from, fault, before.length());
    }

    /** Only 32 and 10 are blanks; what is no letter, digit or ; is no TOKEN. */
    private static void bytes() {
        for (int b = 0; b < 256; b++) {
            String sign = "" + (char) b;
            boolean letter = b >= 'a' && b <= 'z';
            between(1, START, "la" + sign + "nd;");
            if (b == 32 || b == 10) {
                good(sign + START + sign + "land" + sign + ";text" + sign + "0" + sign + "0;" + sign);
            } else if (b == ';') {
                between(1, START, ";land;");
                between(1, START + "land;", ";");
                between(1, "", ";" + START);
                between(1, START + "sense give ", ";;");
            } else {
                between(1, START, sign + (letter ? "" : " ") + "land;");
                between(1, letter ? START : START + "land", letter ? "land" + sign + ";" : sign + ";");
                between(1, START + "land;", sign);
                between(1, "", sign + START);
            }
            if (b >= '0' && b <= '9') {
                good(START + "sense give " + sign + ";");
                good(START + "sense give 5" + sign + ";");
                between(2, START + "sense give ", "99" + sign + ";");
            } else if (b != 32 && b != 10 && b != ';') {
                between(1, START + "sense give ", sign + ";");
                between(1, START + "sense give 5", sign + ";");
                between(1, START + "sense give ", sign + "100;");
            }
        }
    }

    /** A tape may end behind any ; and nowhere else. */
    private static void ends() {
        CHECK.that("it is a tape", FULL.length() <= 600);
        int lines = 0;
        for (int length = 0; length <= FULL.length(); length++) {
            String text = FULL.substring(0, length);
            boolean whole = text.isBlank() || text.trim().endsWith(";");
            lines += text.endsWith(";") ? 1 : 0;
            if (whole) {
                CHECK.due("lines of " + shown(text), good(text).count(7), lines);
                CHECK.due("and blanks: " + shown(text), good(text + " \n ").count(7), lines);
                continue;
            }
            boolean cut = Character.isLetter(text.charAt(length - 1)) && Character.isLetter(FULL.charAt(length));
            int place = length;
            while (cut && place > 0 && Character.isLetter(text.charAt(place - 1))) {
                place--;
            }
            fault(text, 1, place);
            fault(text + "  ", 1, cut ? place : length + 2);
        }
        good("");
        good(" ");
        good("\n");
        good(" ".repeat(600));
    }

    /** TOKENS are the longest. */
    private static void longest() {
        good("book odds5stock20;");
        good("\n\nbook\n\nodds\n5\nstock 20\n;\n\n");
        good(START + "sense give5;sense take99;land;rule shift1;text0;");
        marked(1, "^bookodds 5 stock 20;");
        marked(1, "book ^oddss 5 stock 20;");
        marked(1, START + "^sensestop;");
        marked(1, START + "^landland;");
        marked(1, "book odds 1 ^0 stock 20;");
        marked(2, "book odds ^50 stock 20;");
        marked(2, "book odds 5 stock ^200;");
        MissingMeaning x = good(START + "sense stop;text 01 1 0 00;");
        int[] words = {1, 1, 0, 0, -1};
        for (int i = 0; i < words.length; i++) {
            CHECK.due("word " + i, x.word(0, i), words[i]);
        }
        marked(2, START + "sense stop;text ^11;");
        marked(2, START + "sense stop;land;rule swap ^10;");
        marked(1, START + "sense stop;land;rule swap 1 ^;");
    }

    /** Every word with one letter changed, left out or doubled is another word. */
    private static void spelling() {
        String all = "book odds 5 stock 20;sense give 1;sense take 1;sense double;sense stop;sense skip;land;rule shift 1;"
                + "rule swap 0 1;rule turn 0 1 2;rule rest;text 0;";
        good(all);
        for (int i = 0; i < all.length(); i++) {
            if (!Character.isLetter(all.charAt(i))) {
                continue;
            }
            int start = i;
            while (start > 0 && Character.isLetter(all.charAt(start - 1))) {
                start--;
            }
            char other = all.charAt(i) == 'z' ? 'a' : (char) (all.charAt(i) + 1);
            fault(all.substring(0, i) + other + all.substring(i + 1), 1, start);
            fault(all.substring(0, i) + all.substring(i + 1), 1, start);
            fault(all.substring(0, i) + all.charAt(i) + all.substring(i), 1, start);
            fault(all.substring(0, i) + (char) (all.charAt(i) - 32) + all.substring(i + 1), 1, start);
        }
    }

    /** The first by its place; of one place the least. */
    private static void severalFaults() {
        marked(2, "book odds ^11 stock 100;");
        marked(1, "book ^stock 100 odds 11;");
        marked(2, "book odds 5 stock ^100; sense give 100; land; land; land; land; ?");
        marked(2, START + "sense give ^100; sense x; ?");
        marked(1, START + "sense ^x 100; sense give 100;");
        marked(3, START + "land;land;land;^land;rule shift 10;");
        marked(3, START + "land;land;land;^land x;");
        marked(2, START + "land;rule shift ^10;" + "rule rest;".repeat(8));
        marked(1, START + "land;^?rule shift 10;");
        marked(2, START + "text 0 ^1 ?;");
        marked(1, START + "text 0 ^? 1;");
        marked(2, START + "land;rule swap ^5 5;");
        marked(2, START + "sense stop;land;rule swap 1 ^1 ?");
        marked(2, START + "sense stop;sense stop;land;rule turn 2 ^2 2;");
        // At one place: 1 ahead of 2, 1 ahead of 3, 2 ahead of 3.
        marked(1, START + "sense stop ^100;");
        marked(1, START + "land ^100;");
        marked(1, START + "^100;");
        marked(1, START + "sense stop;".repeat(9) + "land;^sense stop;");
        marked(1, START + "sense stop;".repeat(9) + "text 0;^sense stop;");
        marked(2, START + "text" + " 0".repeat(8) + " ^1;");
        marked(1, START + "land;rule rest ^1;");
        marked(1, START + "sense stop;land;rule swap 0 1 ^1;");
        marked(1, START + "sense stop;sense stop;land;rule turn 0 1 2 ^3;");
        marked(1, START + "land;rule shift 3 ^10;");
        marked(1, START + "sense give 3 ^100;");
    }

    /** A tape that has 600 bytes, and one of which the last byte is the fault. */
    private static void fullTape() {
        String blanks = " ".repeat(600 - START.length() - 5);
        good(START + blanks + "land;");
        good("\n".repeat(595 - START.length()) + START + "land;");
        fault(START + blanks + "land ", 1, 600);
        fault(START + blanks + "land?", 1, 599);
        fault(START + blanks + "landx", 1, 595);
        good(START + blanks + "     ");
        String digits = "0".repeat(600 - START.length() - 12);
        good(START + "sense give " + digits + ";");
        fault(START + "sense give 1" + digits, 2, START.length() + 11);
    }

    /** -4: all stays, but for what fault() tells. */
    private static void allStays() {
        MissingMeaning x = new MissingMeaning();
        Books.tell(x, FULL);
        x.swaps(0, 0, 9);
        x.image(1);
        x.stock(7);
        x.row(2, 1, 2);
        x.write(2, 1, 7);
        CHECK.due("a fault", Books.tell(x, START + "sense give 7; land; text 0; text 9;"), -4);
        CHECK.due("its number", x.fault(0), 2);
        CHECK.due("its place", x.fault(1), START.length() + 33);
        CHECK.due("the tape", x.count(8), START.length() + 35);
        int[] want = {10, 99, 9, 3, 21, 6, 2, 40, START.length() + 35, 1};
        for (int what = 0; what < 10; what++) {
            CHECK.due("count(" + what + ")", x.count(what), want[what]);
        }
        CHECK.due("meanings", x.means(0, 0, 0), 9);
        // Stop, skip, take 0 and nothing leave the 7 there were, each on one of ten days.
        CHECK.due("a slot", x.torn(2, 0), 4);
        CHECK.due("the same tape, the same fault", x.book(), -4);
        CHECK.due("its number", x.fault(0), 2);
        CHECK.due("its place", x.fault(1), START.length() + 33);
        CHECK.due("acts", x.undo(), 1);
        CHECK.due("its number stays", x.fault(0), 2);
        CHECK.due("an image", x.back(1), 0);
        CHECK.due("acts of the image", x.count(6), 1);
        CHECK.due("a shorter tape", x.end(START.length() + 27), START.length() + 27);
        CHECK.due("its place stays", x.fault(1), START.length() + 33);
        CHECK.due("that is a book", x.book(), 4);
        CHECK.due("no fault", x.fault(0), 0);
        CHECK.due("no place", x.fault(1), -1);
        CHECK.due("the slot stays", x.count(9), 1);
        CHECK.due("nothing done", x.count(6), 0);
        CHECK.due("another stock", x.stock(3), 20);
        // A line that is told in two: its end is the fault's place until more comes.
        CHECK.due("a part", Books.tell(x, "book odds 3 stock 12"), -4);
        CHECK.due("at the end", x.fault(1), 20);
        CHECK.due("more comes behind it", x.feed(0x3b20206c, 0x616e643b, 0x20202020, 0x20202020, 0x20202020), 40);
        CHECK.due("and it is a book", x.book(), 2);
        CHECK.due("odds", x.count(0), 3);
        CHECK.due("without a tape there is none", x.book(), 0);
        CHECK.due("no fault", x.fault(0), 0);
        CHECK.due("no lines", x.count(7), 0);
        CHECK.due("a fault without a book", Books.tell(x, "land;"), -4);
        CHECK.due("at the first byte", x.fault(1), 0);
        CHECK.due("still none", x.means(0, 0, 0), -2);
    }
}
