import java.util.List;
import java.util.Random;

/** Random books, acts and questions, each answer against the oracle's. */
public final class OracleTest {
    private static final Check CHECK = new Check("OracleTest");
    private static final int BOOKS = 260;
    private static final int ROUNDS = 5;

    private final Random r;
    private final Oracle o;
    private final MissingMeaning x = new MissingMeaning();
    private final long[][] rows = new long[4][];
    private int book;

    private OracleTest(int book) {
        this.book = book;
        r = new Random(book);
        o = Oracle.random(r);
    }

    public static void main(String[] args) {
        for (int book = 0; book < BOOKS; book++) {
            new OracleTest(book).go();
        }
        CHECK.finish();
    }

    private void go() {
        due("book()", Books.tell(x, o.text), o.lines);
        shape();
        for (int i = 0; i < ROUNDS; i++) {
            meanings();
            readings();
            wholeRounds();
            turnsAndLands();
            letters();
            wordings();
            heirsAndDelays();
            rates();
            acts();
        }
    }

    private void due(String call, long got, long want) {
        CHECK.due("book " + book + ": " + call, got, want);
    }

    /** Mostly one of n, now and then none such. */
    private int some(int n) {
        int dice = r.nextInt(40);
        if (dice == 0) {
            return n;
        }
        return dice == 1 || n == 0 ? -1 : r.nextInt(n);
    }

    private int someDay() {
        int dice = r.nextInt(30);
        if (dice == 0) {
            return r.nextBoolean() ? -1 : 1_000_000_001;
        }
        return dice < 4 ? 1_000_000_000 - r.nextInt(300) : r.nextInt(dice < 15 ? 12 : 500);
    }

    private boolean land(int land) {
        return land >= 0 && land < o.lands.size();
    }

    private boolean text(int text) {
        return text >= 0 && text < o.texts.size();
    }

    private boolean word(int word) {
        return word >= 0 && word < o.words();
    }

    private static boolean day(int day) {
        return day >= 0 && day <= 1_000_000_000;
    }

    private static boolean in(int v, int least, int most) {
        return v >= least && v <= most;
    }

    private void shape() {
        for (int s = -1; s <= o.senses.size(); s++) {
            for (int what = -1; what <= 2; what++) {
                boolean is = in(s, 0, o.senses.size() - 1) && in(what, 0, 1);
                due("sense(" + s + ", " + what + ")", x.sense(s, what), is ? o.senses.get(s)[what] : -2);
            }
        }
        for (int t = -1; t <= o.texts.size(); t++) {
            for (int i = -1; i <= 8; i++) {
                long want = !text(t) ? -2 : in(i, 0, o.texts.get(t).length - 1) ? o.texts.get(t)[i] : -1;
                due("word(" + t + ", " + i + ")", x.word(t, i), want);
            }
        }
        int rules = 0;
        for (int l = -1; l <= o.lands.size(); l++) {
            int many = land(l) ? o.lands.get(l).size() : 0;
            rules += many;
            for (int i = -1; i <= many; i++) {
                for (int w = -1; w <= o.words(); w++) {
                    boolean is = in(i, 0, many - 1) && word(w);
                    due("rule(" + l + ", " + i + ", " + w + ")", x.rule(l, i, w),
                            is ? o.lands.get(l).get(i)[w] : -2);
                }
            }
        }
        int[] counts = {o.odds, o.told, o.senses.size(), o.lands.size(), rules, o.texts.size(), 0, o.lines, 0, 0};
        for (int what = 0; what < counts.length; what++) {
            due("count(" + what + ")", x.count(what), counts[what]);
        }
    }

    private void meanings() {
        for (int i = 0; i < 6; i++) {
            int l = some(o.lands.size());
            int d = someDay();
            int w = some(o.words());
            int s = some(o.words());
            String at = "(" + l + ", " + d + ", " + w + ", " + s + ")";
            boolean there = land(l) && day(d);
            due("means" + at, x.means(l, d, w), there && word(w) ? o.meanings(l, d)[w] : -2);
            due("says" + at, x.says(l, d, s), there && word(s) ? o.says(l, d, s) : -2);
            due("when" + at, x.when(l, w, s, d), there && word(w) && word(s) ? when(l, w, s, d) : -2);
            due("often" + at, x.often(l, w, s), land(l) && word(w) && word(s) ? often(l, w, s) : -2);
            due("may" + at, x.may(l, s), land(l) && word(s) ? may(l, s) : -2);
            due("mute" + at, x.mute(l), land(l) ? mute(l)[0] : -2);
            due("muted" + at, x.muted(l), land(l) ? mute(l)[1] : -2);
            due("stays" + at, x.stays(l, d), there ? o.words() - o.unlike(l, d, l, 0) : -2);
            due("round" + at, x.round(l), land(l) ? o.round(l) : -2);
        }
    }

    private int when(int l, int w, int s, int day) {
        for (int d = day; d < day + Oracle.FAR; d++) {
            if (o.meanings(l, d)[w] == s) {
                return d;
            }
        }
        return -1;
    }

    private int often(int l, int w, int s) {
        int n = 0;
        for (int d = 0; d < o.round(l); d++) {
            n += o.meanings(l, d)[w] == s ? 1 : 0;
        }
        return n;
    }

    private int may(int l, int s) {
        int bits = 0;
        for (int d = 0; d < Oracle.FAR; d++) {
            bits |= 1 << o.says(l, d, s);
        }
        return bits;
    }

    private int[] mute(int l) {
        int[] found = {0, 0};
        for (int w = o.words() - 1; w >= 0; w--) {
            int n = often(l, w, o.nothing());
            if (n >= found[0]) {
                found = new int[] {n, w};
            }
        }
        return found;
    }

    private void readings() {
        for (int i = 0; i < 6; i++) {
            int l = some(o.lands.size());
            int d = someDay();
            int t = some(o.texts.size());
            int v = r.nextInt(12) == 0 ? r.nextInt(2) * 10_001 - 1 : r.nextInt(60);
            int n = r.nextInt(12) == 0 ? r.nextInt(2) * 1001 : r.nextInt(r.nextInt(3) == 0 ? 1000 : 9) + 1;
            boolean is = land(l) && day(d) && text(t);
            if (is && r.nextBoolean()) {
                v = o.read(l, d + r.nextInt(20), t);
            }
            String at = "(" + l + ", " + d + ", " + t + ", " + v + ", " + n + ")";
            int[] reading = is ? o.reading(o.stockNow(), o.meanings(l, d), o.texts.get(t)) : new int[] {-2, -2, -2};
            due("read" + at, x.read(l, d, t), reading[0]);
            due("heard" + at, x.heard(l, d, t), reading[1]);
            due("lost" + at, x.lost(l, d, t), is ? o.texts.get(t).length - reading[1] : -2);
            due("kinds" + at, x.kinds(l, d, t), reading[2]);
            due("silent" + at, x.silent(l, d, t), is ? o.silent(l, d, t) : -2);
            due("again" + at, x.again(l, d, t), is ? o.first(l, d + 1, t, reading[0]) : -2);
            due("first" + at, x.first(l, d, t, v), is && in(v, 0, 9999) ? o.first(l, d, t, v) : -2);
            boolean many = is && in(n, 1, 1000);
            due("best" + at, x.best(l, d, n, t), many ? o.best(l, d, n, t, true) : -2);
            due("worst" + at, x.worst(l, d, n, t), many ? o.best(l, d, n, t, false) : -2);
            due("better" + at, x.better(l, d, t), is ? o.better(l, d, t) : -2);
            due("richest" + at, x.richest(l, d), land(l) && day(d) ? o.richest(l, d) : -2);
            due("all" + at, x.all(l, d), land(l) && day(d) ? o.all(l, d) : -2);
        }
    }

    private void wholeRounds() {
        for (int i = 0; i < 2; i++) {
            int l = some(o.lands.size());
            int t = some(o.texts.size());
            int u = some(o.texts.size());
            int v = r.nextInt(12) == 0 ? r.nextInt(2) * 10_001 - 1 : r.nextInt(150);
            int what = r.nextInt(10) == 0 ? r.nextInt(2) * 3 - 1 : r.nextInt(2);
            boolean is = land(l) && text(t);
            String at = "(" + l + ", " + t + ", " + u + ", " + v + ", " + what + ")";
            due("sorts" + at, x.sorts(l, t), is ? o.sorts(l, t) : -2);
            due("clear" + at, x.clear(l, t), is ? o.clear(l, t) : -2);
            due("agree" + at, x.agree(l, t, u), is && text(u) ? o.agree(l, t, u) : -2);
            due("days" + at, x.days(l, t, v), is && in(v, 0, 9999) ? o.days(l, t, v) : -2);
            due("run" + at, x.run(l, t), is ? o.run(l, t) : -2);
            due("average" + at, x.average(l, t, what), is && in(what, 0, 1) ? o.average(l, t, what) : -2);
        }
    }

    private void turnsAndLands() {
        for (int i = 0; i < 3; i++) {
            int l = some(o.lands.size());
            int m = some(o.lands.size());
            int d = someDay();
            int e = someDay();
            int w = some(o.words());
            int t = some(o.texts.size());
            int n = r.nextInt(9) == 0 ? r.nextInt(2) * 10_001 : r.nextInt(r.nextInt(9) == 0 ? 10_000 : 300) + 1;
            String at = "(" + l + ", " + d + ", " + w + ", " + m + ", " + e + ", " + t + ", " + n + ")";
            boolean there = land(l) && day(d);
            boolean two = land(l) && land(m);
            due("turned" + at, x.turned(l, w, d), there && word(w) ? o.turned(l, w, d) : -2);
            due("cycle" + at, x.cycle(l, w), land(l) && word(w) ? o.cycle(l, w) : -2);
            due("fixed" + at, x.fixed(l), land(l) ? fixed(l) : -2);
            due("order" + at, x.order(l), land(l) ? o.order(l) : -2);
            due("even" + at, x.even(l, d), there ? o.even(l, d) : -2);
            due("otherwise" + at, x.otherwise(l, d, m), two && day(d) ? o.unlike(l, d, m, d) : -2);
            due("like" + at, x.like(l, d, m), two && day(d) ? o.like(l, d, m) : -2);
            boolean both = two && day(d) && day(e);
            due("carry" + at, x.carry(l, d, w, m, e), both && word(w) ? o.says(m, e, o.meanings(l, d)[w]) : -2);
            due("carried" + at, x.carried(l, d, t, m, e), both && text(t) ? o.carried(l, d, t, m, e) : -2);
            due("differ" + at, x.differ(l, m), two ? o.differ(l, m) : -2);
            due("differs" + at, x.differs(l, m), two ? o.differs(l, m) : -2);
            due("alike" + at, x.alike(l, m, n), two && in(n, 1, 10_000) ? alike(l, m, n) : -2);
        }
    }

    private int fixed(int l) {
        int bits = 0;
        for (int w = 0; w < o.words(); w++) {
            bits += o.turn(l)[w] == w ? 1 << w : 0;
        }
        return bits;
    }

    private int alike(int l, int m, int n) {
        int days = 0;
        for (int d = 0; d < n; d++) {
            days += o.unlike(l, d, m, d) == 0 ? 1 : 0;
        }
        return days;
    }

    private void letters() {
        for (int i = 0; i < 4; i++) {
            int slot = some(4);
            int l = some(o.lands.size());
            int d = someDay();
            if (in(slot, 0, 3) && r.nextInt(3) > 0) {
                tear(slot);
            }
            String at = "(" + slot + ", " + l + ", " + d + ")";
            int trouble = in(slot, 0, 3) && land(l) ? trouble(slot) : -2;
            due("torn" + at, x.torn(slot, l), trouble != 0 ? trouble : o.fitting(rows[slot], l).size());
            due("ask" + at, x.ask(slot, l), trouble != 0 ? trouble : o.ask(rows[slot], l));
            due("leaves" + at, x.leaves(slot, l), trouble != 0 ? trouble : leaves(slot, l));
            int dated = day(d) ? trouble : -2;
            due("date" + at, x.date(slot, l, d), dated != 0 ? dated : date(slot, l, d));
            int anywhere = in(slot, 0, 3) && day(d) ? trouble(slot) : -2;
            due("lands" + at, x.lands(slot, d), anywhere != 0 ? anywhere : lands(slot, d));
        }
    }

    /** A row that mostly tells what was left on some day, now and then what can't be told. */
    private void tear(int slot) {
        int n = r.nextInt(8) == 0 ? 2 * r.nextInt(3) + 1 : 2 * r.nextInt(4);
        int width = r.nextInt(3) + 1;
        due("row", x.row(slot, width, n), 0);
        rows[slot] = new long[n];
        int l = o.lands.isEmpty() ? -1 : r.nextInt(o.lands.size());
        int day = r.nextInt(200);
        for (int i = 0; i < n; i++) {
            long v = i % 2 == 0 ? r.nextInt(Math.max(1, o.texts.size())) : r.nextInt(30);
            if (i % 2 == 1 && l >= 0 && text((int) rows[slot][i - 1])) {
                v = o.read(l, day, (int) rows[slot][i - 1]);
            }
            if (r.nextInt(40) == 0) {
                v = new long[] {-1, 10_000, o.texts.size(), 1L << 40 | v}[r.nextInt(4)];
            }
            due("write", x.write(slot, i, v), 0);
            rows[slot][i] = width == 1 ? (short) v : width == 2 ? (int) v : v;
        }
    }

    private int trouble(int slot) {
        if (rows[slot] == null) {
            return -6;
        }
        boolean good = rows[slot].length % 2 == 0;
        for (int i = 0; i < rows[slot].length; i++) {
            good &= rows[slot][i] >= 0 && rows[slot][i] < (i % 2 == 0 ? o.texts.size() : 10_000);
        }
        return good ? 0 : -2;
    }

    private int leaves(int slot, int l) {
        List<Integer> days = o.fitting(rows[slot], l);
        int text = o.ask(rows[slot], l);
        return text < 0 ? days.size() : o.worstOf(days, l, text);
    }

    private int date(int slot, int l, int day) {
        for (int d = day; d < day + Oracle.FAR; d++) {
            if (o.fits(rows[slot], l, d)) {
                return d;
            }
        }
        return -1;
    }

    private int lands(int slot, int d) {
        int bits = 0;
        for (int l = 0; l < o.lands.size(); l++) {
            bits += o.fits(rows[slot], l, d) ? 1 << l : 0;
        }
        return bits;
    }

    private void wordings() {
        int l = some(o.lands.size());
        int d = someDay();
        int n = r.nextInt(20) == 0 ? r.nextInt(2) * 8 : r.nextInt(r.nextInt(3) == 0 ? 7 : 2) + 1;
        int v = r.nextInt(20) == 0 ? r.nextInt(2) * 10_001 - 1 : r.nextInt(30);
        boolean is = land(l) && day(d) && in(n, 1, 7) && in(v, 0, 9999);
        if (is && r.nextInt(3) > 0) {
            int[] row = new int[r.nextInt(4) + 1];
            for (int i = 0; i < row.length; i++) {
                row[i] = r.nextInt(o.words());
            }
            v = o.reading(o.stockNow(), o.meanings(l, d), row)[0];
        }
        String at = "(" + l + ", " + d + ", " + n + ", " + v + ")";
        List<int[]> rows = is ? o.wordings(l, d, n, v) : null;
        due("wording" + at, x.wording(l, d, n, v), !is ? -2 : rows.isEmpty() ? -1 : rows.get(0).length);
        due("wordings" + at, x.wordings(l, d, n, v), !is ? -2 : rows.size());
        for (int i = -1; i <= 4; i++) {
            boolean place = is && !rows.isEmpty() && i < rows.get(0).length;
            due("worded" + at + i, x.worded(l, d, n, v, i), !is || i < 0 ? -2 : place ? rows.get(0)[i] : -1);
        }
    }

    private void heirsAndDelays() {
        int l = some(o.lands.size());
        int d = someDay();
        int t = some(o.texts.size());
        int n = r.nextInt(12) == 0 ? r.nextInt(2) * 9 - 1 : r.nextInt(8);
        int what = r.nextInt(20) == 0 ? r.nextInt(2) * 3 - 1 : r.nextInt(2);
        int seed = r.nextInt(12) == 0 ? r.nextInt(2) * 2_000_000_002 - 1 : r.nextInt(2_000_000_001);
        int many = r.nextInt(12) == 0 ? r.nextInt(2) * 21 : r.nextInt(20) + 1;
        boolean there = land(l) && day(d);
        boolean is = there && text(t);
        boolean sent = is && in(n, 0, 7) && in(what, 0, 1);
        boolean seeded = in(seed, 0, 2_000_000_000);
        String at = "(" + l + ", " + d + ", " + t + ", " + n + ", " + what + ", " + seed + ", " + many + ")";
        due("heirs" + at, x.heirs(l, d), there ? o.heirs(l, d, 0) : -100_000);
        due("takes" + at, x.takes(l, d), there ? o.takes(l, d) : -2);
        due("greedy" + at, x.greedy(l, d), there ? o.greedy(l, d) : -100_000);
        due("chance" + at, x.chance(l, d, t, n, what), sent ? o.delay(l, d, t, n, what, false) : -2);
        due("mean" + at, x.mean(l, d, t, n, what), sent ? o.delay(l, d, t, n, what, true) : -2);
        due("drawn" + at, x.drawn(seed, n), seeded && in(n, 0, 7) ? o.drawn(seed, n) : -2);
        boolean lucky = is && seeded && in(many, 1, 20);
        due("luck" + at, x.luck(seed, many, l, d, t), lucky ? o.luck(seed, many, l, d, t) : -2);
    }

    private void rates() {
        int s = some(o.senses.size());
        int n = r.nextInt(10) == 0 ? r.nextInt(2) * 101 - 1 : r.nextInt(100);
        boolean is = in(s, 0, o.senses.size() - 1) && o.senses.get(s)[0] < 2 && in(n, 0, 99);
        long want = !is ? -2 : !o.acts.isEmpty() ? -5 : o.senses.get(s)[1];
        due("rate(" + s + ", " + n + ")", x.rate(s, n), want);
        if (want >= 0) {
            o.senses.get(s)[1] = n;
        }
    }

    private void acts() {
        for (int i = 0; i < 5; i++) {
            int dice = r.nextInt(8);
            if (dice < 4) {
                swap();
            } else if (dice < 6) {
                int n = r.nextInt(10) == 0 ? r.nextInt(2) * 101 - 1 : r.nextInt(100);
                long want = !in(n, 0, 99) ? -2 : o.acts.size() == 30 ? -5 : o.stockNow();
                due("stock(" + n + ")", x.stock(n), want);
                if (want >= 0) {
                    o.act(-1, n);
                }
            } else if (dice < 7) {
                due("undo()", x.undo(), o.acts.isEmpty() ? -5 : o.acts.size() - 1);
                if (!o.acts.isEmpty()) {
                    o.undo();
                }
            } else if (r.nextInt(4) == 0) {
                due("anew()", x.anew(), o.acts.size());
                o.acts.clear();
                o.forget();
            }
            due("count(6)", x.count(6), o.acts.size());
        }
    }

    private void swap() {
        int l = some(o.lands.size());
        int w = some(o.words());
        int v = some(o.words());
        boolean is = land(l) && word(w) && word(v) && w != v;
        long want = !is ? -2 : o.acts.size() == 30 ? -5 : o.start(l)[w];
        due("swaps(" + l + ", " + w + ", " + v + ")", x.swaps(l, w, v), want);
        if (want >= 0) {
            o.act(l, w, v);
        }
    }
}
