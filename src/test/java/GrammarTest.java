import java.math.BigInteger;
import java.util.ArrayList;
import java.util.List;
import java.util.Random;
import java.util.regex.Matcher;
import java.util.regex.Pattern;

/** FAULTS and their places: told by hand, then in random books spoilt at random. */
public final class GrammarTest {
    private static final Check CHECK = new Check("GrammarTest");
    private static final String START = "book odds 5 stock 20;";

    public static void main(String[] args) {
        byHand();
        counts();
        spoilt();
        CHECK.finish();
    }

    private static void fault(String text, int fault, int place) {
        MissingMeaning x = new MissingMeaning();
        String shown = text.replace("\n", "\\n");
        CHECK.due("book() of " + shown, Books.tell(x, text), -4);
        CHECK.due("fault(0) of " + shown, x.fault(0), fault);
        CHECK.due("fault(1) of " + shown, x.fault(1), place);
        CHECK.due("the tape stays of " + shown, x.count(8), text.length());
        CHECK.due("no book of " + shown, x.count(7), 0);
    }

    /** A fault at the sign ^, which is left out. */
    private static void marked(int fault, String text) {
        int place = text.indexOf('^');
        fault(text.replace("^", ""), fault, place);
    }

    private static void good(String text, int lines) {
        MissingMeaning x = new MissingMeaning();
        String shown = text.replace("\n", "\\n");
        CHECK.due("book() of " + shown, Books.tell(x, text), lines);
        CHECK.due("fault(0) of " + shown, x.fault(0), 0);
        CHECK.due("fault(1) of " + shown, x.fault(1), -1);
        CHECK.due("the tape is empty behind " + shown, x.count(8), 0);
        CHECK.due("lines of " + shown, x.count(7), lines);
    }

    private static void byHand() {
        good("", 0);
        good(" \n  ", 0);
        good(START, 1);
        good("book odds5stock 20;", 1);
        good("book\nodds 05 stock 0020 ; ", 1);
        good(START + "sense give 99;sense take 0;sense double;sense stop;sense skip;", 6);
        good(START + "text 0;land;text 0;rule rest;land;rule shift 9;", 7);
        good(START + "sense stop;text 1 0;land;rule swap 1 0;", 5);
        marked(1, "^;");
        marked(1, "^5;");
        marked(1, "^land;");
        marked(1, "^sense stop;" + START);
        marked(1, "^bookodds 5 stock 20;");
        marked(1, "book ^5;");
        marked(1, "book^;");
        marked(1, "book^");
        marked(1, "book  ^");
        marked(1, "book odds 5^");
        marked(1, "book odds 5 ^;");
        marked(2, "book odds ^11 stock 20;");
        marked(2, "book odds 5 stock ^100;");
        marked(2, "book odds 5 stock ^99999999999999999999999999;");
        marked(2, "book odds 5 stock ^4294967297;");
        marked(1, "book odds 5 stock 20^");
        marked(1, "book odds 5 stock 20 ^20;");
        marked(1, START + "^;");
        marked(1, START + "^" + START);
        marked(1, START + "^Land;");
        marked(1, START + "^lLand;");
        marked(1, START + "land^\t;");
        marked(1, START + "land^\r\n;");
        marked(1, START + "land^\u00ff;");
        marked(1, START + "land^-;");
        marked(1, START + "land ^land;");
        marked(1, START + "land^");
        marked(1, START + "land \n ^");
        marked(1, START + "sense ^;");
        marked(1, START + "sense ^land;");
        marked(1, START + "sense give ^;");
        marked(1, START + "sense stop ^1;");
        marked(1, START + "sense double ^1;");
        marked(1, START + "sense skip ^1;");
        marked(2, START + "sense take ^100;");
        marked(1, START + "sense take ^-1;");
        marked(1, START + "land;^sense stop;");
        marked(1, START + "text 0;^sense stop;");
        marked(1, START + "^rule rest;");
        marked(1, START + "text 0;^rule rest;land;");
        marked(1, START + "land;rule ^;");
        marked(1, START + "land;rule ^give 3;");
        marked(1, START + "land;rule rest ^1;");
        marked(2, START + "land;rule shift ^0;");
        marked(2, START + "land;rule shift ^10;");
        marked(1, START + "land;rule shift ^;");
        marked(2, START + "land;rule swap 0 ^1;");
        marked(2, START + "land;rule swap 0 ^0;");
        marked(2, START + "land;rule swap ^1 0;");
        marked(2, START + "sense stop;land;rule swap 1 ^1;");
        marked(1, START + "sense stop;land;rule swap 1 0 ^0;");
        marked(1, START + "sense stop;land;rule swap 1 ^;");
        marked(2, START + "sense stop;sense stop;land;rule turn 1 ^1 0;");
        marked(2, START + "sense stop;sense stop;land;rule turn 1 0 ^1;");
        marked(2, START + "sense stop;sense stop;land;rule turn 1 0 ^0;");
        marked(2, START + "sense stop;sense stop;land;rule turn 1 0 ^3;");
        marked(1, START + "sense stop;sense stop;land;rule turn 1 0 ^;");
        good(START + "sense stop;sense stop;land;rule turn 1 0 2;", 5);
        marked(1, START + "text ^;");
        marked(1, START + "text ^text 0;");
        marked(2, START + "text ^1;");
        marked(2, START + "text 0 0 ^1;");
        marked(1, START + "text 0 ^x;");
        marked(1, START + "text 0 0^");
        marked(1, START + "^texts 0;");
        marked(1, START + "^landz;");
        marked(1, START + "^alandz;");
        marked(1, START + "land^`;");
        marked(1, START + "land^{;");
        marked(1, START + "text 0^/;");
        marked(1, START + "text 0^:;");
        marked(1, START + "^tex t 0;");
    }

    private static void counts() {
        good(START + "sense stop;".repeat(9) + "text 9;", 11);
        marked(3, START + "sense stop;".repeat(9) + "^sense stop;");
        marked(3, START + "sense stop;".repeat(9) + "^sense x;");
        marked(1, START + "sense stop;".repeat(9) + "land;^sense stop;");
        good(START + "land;land;land;", 4);
        marked(3, START + "land;land;land;^land;");
        marked(3, START + "land;land;land;^land 5;");
        good(START + "land;" + "rule rest;".repeat(7) + "land;" + "rule rest;".repeat(7), 17);
        marked(3, START + "land;" + "rule rest;".repeat(7) + "^rule rest;");
        marked(3, START + "land;" + "rule rest;".repeat(7) + "text 0;^rule 7;");
        good(START + "text 0;".repeat(6), 7);
        marked(3, START + "text 0;".repeat(6) + "^text 0;");
        marked(3, START + "text 0;".repeat(6) + "^text");
        good(START + "text 0 0 0 0 0 0 0 0;", 2);
        marked(3, START + "text 0 0 0 0 0 0 0 0 ^0;");
        marked(2, START + "text 0 0 0 0 0 0 0 0 ^1;");
        marked(1, START + "text 0 0 0 0 0 0 0 0 ^x;");
        marked(1, START + "text 0 0 0 0 0 0 0 0 ^");
    }

    private static final Pattern TOKEN = Pattern.compile("[a-z]+|[0-9]+|[^ \n]", Pattern.DOTALL);

    private static void spoilt() {
        Random r = new Random(11);
        String signs = "abdeklnorstuw0123456789;;  \n-A";
        String[] pieces = {"book", "odds", "stock", "sense", "give", "take", "double", "stop", "skip", "land", "rule",
            "shift", "swap", "turn", "rest", "text", "0", "1", "5", "9", "10", "11", "99", "100", ";", "", "land;",
            "text 0;", "sense stop;", "rule rest;", "-"};
        MissingMeaning x = new MissingMeaning();
        int faults = 0;
        for (int i = 0; i < 40_000; i++) {
            String text = Oracle.random(r).text;
            int times = r.nextInt(3);
            for (int j = 0; j < times; j++) {
                text = r.nextBoolean() ? bySign(r, text, signs) : byToken(r, text, pieces);
            }
            if (text.length() > 600) {
                text = text.substring(0, 600);
            }
            int[] want = judged(text);
            String shown = text.replace("\n", "\\n");
            CHECK.due("book() of " + shown, Books.tell(x, text), want[0] == 0 ? want[2] : -4);
            CHECK.due("fault(0) of " + shown, x.fault(0), want[0]);
            CHECK.due("fault(1) of " + shown, x.fault(1), want[1]);
            faults += want[0] == 0 ? 0 : 1;
        }
        CHECK.that("many are faulty, many not", faults > 10_000 && faults < 30_000);
    }

    private static String bySign(Random r, String text, String signs) {
        int at = r.nextInt(text.length() + 1);
        int behind = Math.min(text.length(), at + r.nextInt(3));
        char sign = signs.charAt(r.nextInt(signs.length()));
        return text.substring(0, at) + (r.nextInt(3) == 0 ? "" : "" + sign) + text.substring(behind);
    }

    private static String byToken(Random r, String text, String[] pieces) {
        Matcher m = TOKEN.matcher(text);
        List<int[]> spans = new ArrayList<>();
        while (m.find()) {
            spans.add(new int[] {m.start(), m.end()});
        }
        if (spans.isEmpty()) {
            return text;
        }
        int[] span = spans.get(r.nextInt(spans.size()));
        return text.substring(0, span[0]) + " " + pieces[r.nextInt(pieces.length)] + " " + text.substring(span[1]);
    }

    /** What a text is judged to be: fault, place, lines. Every line is held against its pattern. */
    private static int[] judged(String text) {
        List<String> tokens = new ArrayList<>();
        List<Integer> places = new ArrayList<>();
        Matcher m = TOKEN.matcher(text);
        while (m.find()) {
            tokens.add(m.group());
            places.add(m.start());
        }
        tokens.add("the end");
        places.add(text.length());
        int at = 0;
        int lines = 0;
        int senses = 0;
        int lands = 0;
        int rules = 0;
        int texts = 0;
        while (!tokens.get(at).equals("the end")) {
            String head = tokens.get(at);
            if (lines == 0 != head.equals("book") || !List.of("book", "sense", "land", "rule", "text").contains(head)
                    || head.equals("sense") && lands + texts > 0 || head.equals("rule") && lands == 0) {
                return new int[] {1, places.get(at), 0};
            }
            if (head.equals("sense") && senses == 9 || head.equals("land") && lands == 3
                    || head.equals("rule") && rules == 7 || head.equals("text") && texts == 6) {
                return new int[] {3, places.get(at), 0};
            }
            List<String> pattern = pattern(head, at + 1 < tokens.size() ? tokens.get(at + 1) : "", tokens, at);
            List<BigInteger> words = new ArrayList<>();
            for (String wanted : pattern) {
                int fault = held(wanted, tokens.get(at), senses, words);
                if (fault != 0) {
                    return new int[] {fault, places.get(at), 0};
                }
                at++;
            }
            lines++;
            senses += head.equals("sense") ? 1 : 0;
            lands += head.equals("land") ? 1 : 0;
            rules = head.equals("land") ? 0 : head.equals("rule") ? rules + 1 : rules;
            texts += head.equals("text") ? 1 : 0;
        }
        return new int[] {0, -1, lines};
    }

    private static List<String> pattern(String head, String next, List<String> tokens, int at) {
        switch (head + " " + next) {
            case "sense give":
            case "sense take":
                return List.of(head, next, "0-99", ";");
            case "sense double":
            case "sense stop":
            case "sense skip":
                return List.of(head, next, ";");
            case "rule shift":
                return List.of(head, next, "1-9", ";");
            case "rule swap":
                return List.of(head, next, "unlike", "unlike", ";");
            case "rule turn":
                return List.of(head, next, "unlike", "unlike", "unlike", ";");
            case "rule rest":
                return List.of(head, next, ";");
            default:
                break;
        }
        if (head.equals("book")) {
            return List.of("book", "odds", "0-10", "stock", "0-99", ";");
        }
        if (head.equals("land")) {
            return List.of("land", ";");
        }
        if (!head.equals("text")) {
            return List.of(head, "nothing that can stand");
        }
        List<String> pattern = new ArrayList<>(List.of("text", "word"));
        for (int i = at + 2; Character.isDigit(tokens.get(i - 1).charAt(0)) && Character.isDigit(tokens.get(i).charAt(0));
                i++) {
            pattern.add(i - at <= 8 ? "word" : "ninth");
        }
        pattern.add(";");
        return pattern;
    }

    private static int held(String wanted, String token, int senses, List<BigInteger> words) {
        boolean numeric = wanted.contains("-") || List.of("unlike", "word", "ninth").contains(wanted);
        if (!numeric) {
            return token.equals(wanted) ? 0 : 1;
        }
        if (!token.matches("[0-9]+")) {
            return 1;
        }
        BigInteger number = new BigInteger(token);
        int least = wanted.contains("-") ? Integer.parseInt(wanted.split("-")[0]) : 0;
        int most = wanted.contains("-") ? Integer.parseInt(wanted.split("-")[1]) : senses;
        if (number.compareTo(BigInteger.valueOf(least)) < 0 || number.compareTo(BigInteger.valueOf(most)) > 0
                || wanted.equals("unlike") && words.contains(number)) {
            return 2;
        }
        words.add(number);
        return wanted.equals("ninth") ? 3 : 0;
    }
}
