import java.util.Arrays;
import java.util.Random;

/**
 * A LAND among others is as it is alone, a TEXT among others too, and a STOCK at first by an act
 * is as one that is told. Each question has objects of its own.
 */
public final class AloneTest {
    private static final Check CHECK = new Check("AloneTest");
    private static final String HEAD = "sense give 7; sense take 3; sense double; sense skip; sense stop;";
    private static final String[] LANDS = {"land; rule shift 1; rule swap 0 3;", "land; rule turn 5 0 2; rule rest; rule swap 1 4;",
        "land; rule swap 2 5; rule shift 4; rule turn 1 3 5; rule shift 2;"};
    private static final String[] TEXTS = {"text 0 1 2;", "text 3 2 1 0;", "text 5;", "text 2 2 0 4 1;", "text 1 3 0 0 2 2 5 0;",
        "text 0 3 4 2;"};
    private static final int SAMPLES = 120;

    private static final Random R = new Random(5);

    public static void main(String[] args) {
        for (String call : Calls.ASKED) {
            String[] kinds = call.split(" ");
            long lands = Arrays.stream(kinds).filter("land"::equals).count();
            long texts = Arrays.stream(kinds).filter("text"::equals).count();
            for (int i = 0; i < SAMPLES; i++) {
                int[] values = new int[kinds.length - 1];
                for (int j = 0; j < values.length; j++) {
                    values[j] = some(kinds[j + 1]);
                }
                told(kinds[0], values);
                if (lands == 1) {
                    landAlone(kinds, values);
                } else if (lands == 2) {
                    twoLandsAlone(kinds, values);
                }
                if (texts == 1) {
                    textAlone(kinds, values);
                } else if (texts == 2) {
                    twoTextsAlone(kinds, values);
                }
            }
        }
        CHECK.finish();
    }

    private static int some(String kind) {
        switch (kind) {
            case "land":
                return R.nextInt(3);
            case "text":
            case "word":
            case "meaning":
                return R.nextInt(6);
            case "sense":
            case "free":
                return R.nextInt(5);
            case "rule":
                return R.nextInt(4);
            case "part":
                return R.nextInt(2);
            case "day":
            case "turns":
                return R.nextInt(5) == 0 ? 1_000_000_000 - R.nextInt(70) : R.nextInt(20);
            case "stock":
                return new int[] {0, 9, 16, 6, 18, 23, 13, 32}[R.nextInt(8)];
            case "thousand":
            case "tenthousand":
                return 1 + R.nextInt(R.nextInt(3) == 0 ? 1000 : 9);
            case "seven":
                return 1 + R.nextInt(R.nextInt(3) == 0 ? 7 : 2);
            case "letters":
                return 1 + R.nextInt(20);
            case "nights":
                return R.nextInt(8);
            case "slot":
            case "slotofbook":
                return R.nextInt(4);
            case "place":
                return R.nextInt(3);
            default:
                return R.nextInt(2_000_000_001);
        }
    }

    private static MissingMeaning made(int stock, String lands, String texts) {
        MissingMeaning x = Books.of("book odds 4 stock " + stock + ";" + HEAD + lands + texts);
        x.row(0, 0, 0);
        x.row(1, 1, 2);
        x.write(1, 1, 9);
        x.row(2, 2, 2);
        x.write(2, 1, 16);
        x.row(3, 3, 4);
        x.write(3, 0, 5);
        x.write(3, 1, 16);
        x.write(3, 3, 16);
        return x;
    }

    private static MissingMeaning whole() {
        return made(9, String.join("", LANDS), String.join("", TEXTS));
    }

    private static void same(String what, String name, int[] values, long got, long want) {
        CHECK.due(what + ": " + name + Arrays.toString(values), got, want);
    }

    private static void told(String name, int[] values) {
        MissingMeaning done = made(77, String.join("", LANDS), String.join("", TEXTS));
        done.stock(9);
        same("a stock by an act", name, values, Calls.answer(done, name, values), Calls.answer(whole(), name, values));
    }

    private static void landAlone(String[] kinds, int[] values) {
        int at = Arrays.asList(kinds).indexOf("land") - 1;
        MissingMeaning alone = made(9, LANDS[values[at]], String.join("", TEXTS));
        int[] changed = values.clone();
        changed[at] = 0;
        same("a land alone", kinds[0], values, Calls.answer(whole(), kinds[0], values), Calls.answer(alone, kinds[0], changed));
    }

    private static void twoLandsAlone(String[] kinds, int[] values) {
        int at = Arrays.asList(kinds).indexOf("land") - 1;
        int other = Arrays.asList(kinds).lastIndexOf("land") - 1;
        MissingMeaning alone = made(9, LANDS[values[other]] + LANDS[values[at]], String.join("", TEXTS));
        int[] changed = values.clone();
        changed[at] = 1;
        changed[other] = 0;
        same("two lands alone", kinds[0], values, Calls.answer(whole(), kinds[0], values),
                Calls.answer(alone, kinds[0], changed));
    }

    private static void textAlone(String[] kinds, int[] values) {
        int at = Arrays.asList(kinds).indexOf("text") - 1;
        MissingMeaning alone = made(9, String.join("", LANDS), TEXTS[values[at]]);
        int[] changed = values.clone();
        changed[at] = 0;
        same("a text alone", kinds[0], values, Calls.answer(whole(), kinds[0], values), Calls.answer(alone, kinds[0], changed));
    }

    private static void twoTextsAlone(String[] kinds, int[] values) {
        int at = Arrays.asList(kinds).indexOf("text") - 1;
        int other = Arrays.asList(kinds).lastIndexOf("text") - 1;
        MissingMeaning alone = made(9, String.join("", LANDS), TEXTS[values[other]] + TEXTS[values[at]]);
        int[] changed = values.clone();
        changed[at] = 1;
        changed[other] = 0;
        same("two texts alone", kinds[0], values, Calls.answer(whole(), kinds[0], values),
                Calls.answer(alone, kinds[0], changed));
    }
}
