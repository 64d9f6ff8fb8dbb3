import java.util.ArrayList;
import java.util.Arrays;
import java.util.List;

/**
 * Every bound of every argument: the least and the greatest that is allowed are not refused, the
 * next one on each side is, and behind what is refused (or only asked) all is as it was. Each call
 * has an object of its own, so that none is used for more than 512 calls.
 */
public final class BoundsTest {
    private static final Check CHECK = new Check("BoundsTest");
    private static final int FREE = 7;

    /** A book with what it has: SENSES, LANDS, RULES of each LAND, TEXTS. */
    private record Told(String text, int senses, int lands, int rules, int texts) {
    }

    private static final Told FULL = new Told("book odds 10 stock 99;" + "sense give 99;".repeat(5)
            + "sense take 9;".repeat(4) + ("land;" + "rule shift 9;".repeat(7)).repeat(2) + "land;"
            + "rule swap 0 9;".repeat(7) + "text 0 9 8 7 6 5 4 3;" + "text 9;".repeat(5), 9, 3, 7, 6);
    private static final Told ONE = new Told("book odds 1 stock 1; sense take 1; land; rule swap 0 1; text 1;", 1, 1, 1, 1);
    private static final Told TWO = new Told("book odds 0 stock 0; sense give 1; sense give 3; land; rule rest; rule shift 1;"
            + "land; rule turn 0 1 2; rule shift 2; text 2; text 1 0;", 2, 2, 2, 2);
    private static final Told SENSELESS = new Told("book odds 9 stock 5; land; rule rest; text 0 0;", 0, 1, 1, 1);
    private static final Told RULELESS = new Told("book odds 9 stock 5; sense give 2; land; text 0;", 1, 1, 0, 1);
    private static final Told LANDLESS = new Told("book odds 9 stock 5; sense give 2; text 0;", 1, 0, 0, 1);
    private static final Told TEXTLESS = new Told("book odds 9 stock 5; sense give 2; land; rule rest;", 1, 1, 1, 0);
    private static final Told BARE = new Told("book odds 0 stock 0;", 0, 0, 0, 0);
    private static final Told NO_BOOK = new Told("", 0, 0, 0, 0);

    private final Told told;

    private BoundsTest(Told told) {
        this.told = told;
    }

    public static void main(String[] args) {
        Told[] books = {FULL, ONE, TWO, SENSELESS, RULELESS, LANDLESS, TEXTLESS, BARE, NO_BOOK};
        for (Told told : books) {
            BoundsTest test = new BoundsTest(told);
            test.shape();
            for (String call : Calls.ASKED) {
                test.bounds(call, false);
            }
            for (String call : Calls.DONE) {
                test.bounds(call, true);
            }
        }
        tapes();
        CHECK.finish();
    }

    /** The book is as this test believes it to be. */
    private void shape() {
        MissingMeaning x = made();
        int[] want = {told.senses, told.lands, told.rules * told.lands, told.texts, 0};
        for (int i = 0; i < want.length; i++) {
            CHECK.due(told.text + " count(" + (i + 2) + ")", x.count(i + 2), want[i]);
        }
    }

    /** The book, three images of it, and rows that tell of TEXT 0 (of nothing, if there is none). */
    private MissingMeaning made() {
        MissingMeaning x = new MissingMeaning();
        Books.tell(x, told.text);
        for (int k = 0; k < 3; k++) {
            x.image(k);
        }
        x.row(0, 1, told.texts == 0 ? 0 : 60);
        x.row(1, 3, 0);
        x.row(2, 2, told.texts == 0 ? 0 : 2);
        x.write(2, 1, 99);
        x.row(3, 0, told.texts == 0 ? 0 : 12);
        return x;
    }

    private int least(String kind) {
        return kind.equals("thousand") || kind.equals("tenthousand") || kind.equals("seven") || kind.equals("letters")
                ? 1 : 0;
    }

    private int greatest(String kind) {
        boolean book = this.told != NO_BOOK;
        switch (kind) {
            case "sense":
                return told.senses - 1;
            case "word":
            case "other":
            case "meaning":
                return told.senses;
            case "land":
                return told.lands - 1;
            case "rule":
                return told.rules - 1;
            case "text":
                return told.texts - 1;
            case "part":
                return 1;
            case "day":
            case "turns":
                return 1_000_000_000;
            case "stock":
                return 9_999;
            case "told":
                return book ? 99 : -1;
            case "thousand":
                return 1_000;
            case "tenthousand":
                return 10_000;
            case "seven":
            case "nights":
                return 7;
            case "letters":
                return 20;
            case "seed":
                return 2_000_000_000;
            case "seedofbook":
                return book ? 2_000_000_000 : -1;
            case "slot":
            case "width":
                return 3;
            case "slotofbook":
                return book ? 3 : -1;
            case "image":
                return 2;
            case "sixty":
                return 60;
            case "place":
                return Integer.MAX_VALUE;
            default:
                return FREE;
        }
    }

    private void bounds(String call, boolean changes) {
        String[] kinds = call.split(" ");
        int many = kinds.length - 1;
        for (int sides = 0; sides < 1 << many; sides++) {
            int[] values = new int[many];
            boolean all = true;
            for (int i = 0; i < many; i++) {
                values[i] = (sides >> i & 1) == 0 ? least(kinds[i + 1]) : greatest(kinds[i + 1]);
                all &= least(kinds[i + 1]) <= greatest(kinds[i + 1]);
            }
            if (all) {
                allowed(kinds[0], values, changes);
            }
            for (int i = 0; i < many; i++) {
                beyond(kinds, values, i);
            }
        }
    }

    private void allowed(String name, int[] values, boolean changes) {
        MissingMeaning x = made();
        long answer = Calls.answer(x, name, values);
        boolean oneTwice = name.equals("swaps") && values[1] == values[2];
        CHECK.that(shown(name, values) + " answered " + answer, (answer == refusal(name)) == oneTwice);
        if (!changes) {
            CHECK.that("asked alone: " + shown(name, values), seen(x).equals(seen(made())));
        }
    }

    private void beyond(String[] kinds, int[] values, int i) {
        String kind = kinds[i + 1];
        if (kind.equals("free")) {
            return;
        }
        List<Integer> tried = new ArrayList<>(List.of(least(kind) - 1, Integer.MIN_VALUE));
        if (greatest(kind) < Integer.MAX_VALUE) {
            tried.add(greatest(kind) + 1);
            tried.add(Integer.MAX_VALUE);
        }
        for (int v : tried) {
            int[] changed = values.clone();
            changed[i] = v;
            // Below 0 numbers a row is not refused but for its own reason.
            boolean belowZero = kind.equals("sixty") && v < 0;
            MissingMeaning x = made();
            CHECK.due(shown(kinds[0], changed), Calls.answer(x, kinds[0], changed), belowZero ? -3 : refusal(kinds[0]));
            CHECK.that("all stays behind " + shown(kinds[0], changed), seen(x).equals(seen(made())));
        }
    }

    private static long refusal(String name) {
        return name.equals("heirs") || name.equals("greedy") ? -100_000 : -2;
    }

    private String shown(String name, int[] values) {
        return name + Arrays.toString(values) + " of " + told.text;
    }

    /** What can be seen of an object, its images at last. */
    private static List<Long> seen(MissingMeaning x) {
        List<Long> seen = new ArrayList<>();
        for (int what = 0; what < 10; what++) {
            seen.add((long) x.count(what));
        }
        seen.add((long) x.fault(0));
        seen.add((long) x.fault(1));
        for (int slot = 0; slot < 4; slot++) {
            for (int land = 0; land < 3; land++) {
                seen.add((long) x.torn(slot, land));
            }
            seen.add((long) x.write(slot, 60, 0));
            seen.add((long) x.paste(slot, 0, 3, 0, 0));
        }
        seeBook(x, seen);
        for (int k = 0; k < 3; k++) {
            seen.add((long) x.back(k));
            seeBook(x, seen);
        }
        return seen;
    }

    private static void seeBook(MissingMeaning x, List<Long> seen) {
        for (int sense = 0; sense < 9; sense++) {
            seen.add((long) x.sense(sense, 0));
            seen.add((long) x.sense(sense, 1));
        }
        for (int land = 0; land < 3; land++) {
            for (int word = 0; word < 10; word++) {
                seen.add((long) x.means(land, 0, word));
            }
            seen.add((long) x.round(land));
        }
        for (int text = 0; text < 6; text++) {
            seen.add((long) x.word(text, 0));
            seen.add((long) x.read(0, 1, text));
        }
        seen.add((long) x.count(6));
        seen.add((long) x.count(7));
    }

    /** Promises 2, 3, 5, 68: what is answered with NONE. */
    private static void tapes() {
        for (int length = 0; length <= 600; length++) {
            MissingMeaning x = new MissingMeaning();
            for (int i = 0; i < 30; i++) {
                x.feed(i, i, i, i, i);
            }
            CHECK.due("3 end(" + length + ")", x.end(length), length);
            CHECK.due("3 one more of " + length, x.end(length + 1), -1);
            CHECK.due("3 far more of " + length, x.end(Integer.MAX_VALUE), -1);
            CHECK.due("3 below 0 of " + length, x.end(-1), -1);
            CHECK.due("3 far below 0 of " + length, x.end(Integer.MIN_VALUE), -1);
            CHECK.due("3 nothing happens", x.count(8), length);
            CHECK.due("2 feed behind " + length, x.feed(0, 0, 0, 0, 0), length <= 580 ? length + 20 : -1);
            CHECK.due("2 how many there are", x.count(8), length <= 580 ? length + 20 : length);
            CHECK.due("3 as many as there are", x.end(x.count(8)), x.count(8));
        }
        MissingMeaning x = Books.of(ONE.text);
        for (int what : new int[] {Integer.MIN_VALUE, -1, 2, 3, Integer.MAX_VALUE}) {
            CHECK.due("5 fault(" + what + ")", x.fault(what), -1);
        }
        for (int what : new int[] {Integer.MIN_VALUE, -1, 10, 11, Integer.MAX_VALUE}) {
            CHECK.due("68 count(" + what + ")", x.count(what), -1);
        }
    }
}
