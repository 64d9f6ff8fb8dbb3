import java.math.BigInteger;
import java.util.ArrayList;
import java.util.Arrays;
import java.util.HashMap;
import java.util.HashSet;
import java.util.List;
import java.util.Map;
import java.util.Random;
import java.util.Set;

/**
 * The document's words once more, as slow and plain as can be: no rounds, every DAY by the rules
 * themselves, every act played again from the start.
 */
final class Oracle {
    static final int FAR = 900;

    int odds;
    int told;
    int lines;
    final List<int[]> senses = new ArrayList<>();
    final List<List<int[]>> lands = new ArrayList<>();
    final List<int[]> texts = new ArrayList<>();
    final List<int[]> acts = new ArrayList<>();
    String text = "";
    private final Map<Long, int[]> known = new HashMap<>();

    static Oracle random(Random r) {
        Oracle o = new Oracle();
        StringBuilder b = new StringBuilder();
        o.odds = r.nextInt(4) == 0 ? r.nextInt(2) * 10 : r.nextInt(11);
        o.told = r.nextInt(3) == 0 ? r.nextInt(3) : r.nextInt(100);
        b.append("book odds ").append(o.odds).append(" stock ").append(o.told).append(";");
        int senseCount = r.nextInt(6) == 0 ? r.nextInt(2) : r.nextInt(9) + 1;
        boolean small = r.nextBoolean();
        for (int i = 0; i < senseCount; i++) {
            int kind = r.nextInt(5);
            int number = kind < 2 ? r.nextInt(small ? 4 : 100) : 0;
            o.senses.add(new int[] {kind, number});
            b.append("sense ").append(new String[] {"give", "take", "double", "stop", "skip"}[kind]);
            if (kind < 2) {
                b.append(" ").append(number);
            }
            b.append(";\n");
        }
        int landCount = r.nextInt(10) == 0 ? 0 : r.nextInt(3) + 1;
        int textCount = r.nextInt(10) == 0 ? 0 : r.nextInt(6) + 1;
        List<String> landLines = new ArrayList<>();
        for (int i = 0; i < landCount; i++) {
            landLines.add("land;");
            List<int[]> rules = new ArrayList<>();
            o.lands.add(rules);
            int ruleCount = r.nextInt(8);
            for (int j = 0; j < ruleCount; j++) {
                landLines.add(o.randomRule(r, rules));
            }
        }
        List<String> textLines = new ArrayList<>();
        for (int i = 0; i < textCount; i++) {
            int[] words = new int[r.nextInt(8) + 1];
            StringBuilder t = new StringBuilder("text");
            for (int j = 0; j < words.length; j++) {
                words[j] = r.nextInt(o.words());
                t.append(" ").append(words[j]);
            }
            o.texts.add(words);
            textLines.add(t.append(";").toString());
        }
        // Lands and texts stand among one another.
        while (!landLines.isEmpty() || !textLines.isEmpty()) {
            boolean land = textLines.isEmpty() || !landLines.isEmpty() && r.nextInt(3) > 0;
            b.append(land ? landLines.remove(0) : textLines.remove(0));
        }
        o.text = b.toString();
        o.lines = 0;
        for (char c : o.text.toCharArray()) {
            o.lines += c == ';' ? 1 : 0;
        }
        return o.text.length() > 600 ? random(r) : o;
    }

    private String randomRule(Random r, List<int[]> rules) {
        int w = words();
        int[] to = new int[w];
        for (int i = 0; i < w; i++) {
            to[i] = i;
        }
        List<Integer> some = new ArrayList<>();
        for (int i = 0; i < w; i++) {
            some.add(i);
        }
        java.util.Collections.shuffle(some, r);
        int kind = r.nextInt(4);
        String line;
        if (kind == 0) {
            int n = r.nextInt(9) + 1;
            for (int i = 0; i < w; i++) {
                to[i] = (i + n) % w;
            }
            line = "rule shift " + n + ";";
        } else if (kind == 1 && w >= 2) {
            to[some.get(0)] = some.get(1);
            to[some.get(1)] = some.get(0);
            line = "rule swap " + some.get(0) + " " + some.get(1) + ";";
        } else if (kind == 2 && w >= 3) {
            to[some.get(0)] = some.get(1);
            to[some.get(1)] = some.get(2);
            to[some.get(2)] = some.get(0);
            line = "rule turn " + some.get(0) + " " + some.get(1) + " " + some.get(2) + ";";
        } else {
            line = "rule rest;";
        }
        rules.add(to);
        return line;
    }

    int words() {
        return senses.size() + 1;
    }

    int nothing() {
        return senses.size();
    }

    int stockNow() {
        int stock = told;
        for (int[] act : acts) {
            stock = act[0] < 0 ? act[1] : stock;
        }
        return stock;
    }

    int[] start(int land) {
        int[] means = new int[words()];
        for (int w = 0; w < words(); w++) {
            means[w] = w;
        }
        for (int[] act : acts) {
            if (act[0] == land) {
                int was = means[act[1]];
                means[act[1]] = means[act[2]];
                means[act[2]] = was;
            }
        }
        return means;
    }

    void act(int... act) {
        acts.add(act);
        known.clear();
    }

    void undo() {
        acts.remove(acts.size() - 1);
        known.clear();
    }

    void forget() {
        known.clear();
    }

    /** All meanings on a day, by the rule of one day and the next. */
    int[] meanings(int land, long day) {
        long key = day * 3 + land;
        int[] found = known.get(key);
        if (found != null) {
            return found;
        }
        int[] means;
        if (day == 0) {
            means = start(land);
        } else if (day <= 3000) {
            int[] before = meanings(land, day - 1);
            List<int[]> rules = lands.get(land);
            means = new int[words()];
            for (int w = 0; w < words(); w++) {
                means[w] = rules.isEmpty() ? before[w]
                        : before[rules.get((int) ((day - 1) % rules.size()))[w]];
            }
        } else {
            means = farMeanings(land, day);
        }
        known.put(key, means);
        return means;
    }

    /** A far day by squaring what a whole turn does. */
    private int[] farMeanings(int land, long day) {
        List<int[]> rules = lands.get(land);
        int[] all = start(land);
        if (rules.isEmpty()) {
            return all;
        }
        long turns = day / rules.size();
        int[] power = turn(land);
        for (long left = turns; left > 0; left /= 2) {
            all = left % 2 == 1 ? after(all, power) : all;
            power = after(power, power);
        }
        for (int i = 0; i < day % rules.size(); i++) {
            all = after(all, rules.get(i));
        }
        return all;
    }

    /** What a word comes to if it is first taken by the second, then looked up in the first. */
    private static int[] after(int[] first, int[] second) {
        int[] all = new int[first.length];
        for (int w = 0; w < all.length; w++) {
            all[w] = first[second[w]];
        }
        return all;
    }

    int[] turn(int land) {
        int[] to = new int[words()];
        List<int[]> rules = lands.get(land);
        for (int w = 0; w < words(); w++) {
            int at = w;
            for (int i = rules.size() - 1; i >= 0; i--) {
                at = rules.get(i)[at];
            }
            to[w] = at;
        }
        return to;
    }

    int turned(int land, int word, int n) {
        int[] turn = turn(land);
        List<Integer> chain = new ArrayList<>();
        int at = word;
        do {
            chain.add(at);
            at = turn[at];
        } while (at != word);
        return chain.get(n % chain.size());
    }

    int cycle(int land, int word) {
        int[] turn = turn(land);
        int at = turn[word];
        int n = 1;
        while (at != word) {
            at = turn[at];
            n++;
        }
        return n;
    }

    int order(int land) {
        for (int n = 1; ; n++) {
            boolean all = true;
            for (int w = 0; w < words(); w++) {
                all &= turned(land, w, n) == w;
            }
            if (all) {
                return n;
            }
        }
    }

    int round(int land) {
        for (int n = 1; ; n++) {
            boolean same = true;
            for (int day = 0; day < 450 && same; day++) {
                same = Arrays.equals(meanings(land, day), meanings(land, day + n));
            }
            if (same) {
                return n;
            }
        }
    }

    int says(int land, long day, int sense) {
        int[] means = meanings(land, day);
        for (int w = 0; w < words(); w++) {
            if (means[w] == sense) {
                return w;
            }
        }
        throw new IllegalStateException();
    }

    /** What reading does: the stock, how many words are read, their kinds. */
    int[] reading(int stockAtFirst, int[] means, int[] text) {
        int stock = stockAtFirst;
        int heard = 0;
        int kinds = 0;
        for (int i = 0; i < text.length; i++) {
            heard++;
            if (means[text[i]] == nothing()) {
                continue;
            }
            int[] sense = senses.get(means[text[i]]);
            kinds |= 1 << sense[0];
            if (sense[0] == 0) {
                stock = Math.min(9999, stock + sense[1]);
            } else if (sense[0] == 1) {
                stock = Math.max(0, stock - sense[1]);
            } else if (sense[0] == 2) {
                stock = Math.min(9999, stock + stock);
            } else if (sense[0] == 3) {
                break;
            } else {
                i++;
            }
        }
        return new int[] {stock, heard, kinds};
    }

    int read(int land, long day, int text) {
        return reading(stockNow(), meanings(land, day), texts.get(text))[0];
    }

    int silent(int land, int day, int text) {
        int bits = 0;
        int[] words = texts.get(text);
        for (int i = 0; i < words.length; i++) {
            bits += meanings(land, day)[words[i]] == nothing() ? 1 << i : 0;
        }
        return bits;
    }

    int first(int land, int day, int text, int v) {
        for (int d = day; d < day + FAR; d++) {
            if (read(land, d, text) == v) {
                return d;
            }
        }
        return -1;
    }

    int best(int land, int day, int n, int text, boolean most) {
        int found = day;
        for (int d = day; d < day + n; d++) {
            int now = read(land, d, text);
            int top = read(land, found, text);
            found = (most ? now > top : now < top) ? d : found;
        }
        return found;
    }

    int sorts(int land, int text) {
        Set<Integer> stocks = new HashSet<>();
        for (int d = 0; d < FAR; d++) {
            stocks.add(read(land, d, text));
        }
        return stocks.size();
    }

    int clear(int land, int text) {
        for (int d = 0; d < FAR; d++) {
            Set<Integer> unlike = new HashSet<>();
            for (int w : texts.get(text)) {
                unlike.add(meanings(land, d)[w]);
            }
            if (unlike.size() == texts.get(text).length && !unlike.contains(nothing())) {
                return d;
            }
        }
        return -1;
    }

    int agree(int land, int text, int other) {
        for (int d = 0; d < FAR; d++) {
            if (read(land, d, text) == read(land, d, other)) {
                return d;
            }
        }
        return -1;
    }

    int days(int land, int text, int v) {
        int n = 0;
        for (int d = 0; d < round(land); d++) {
            n += read(land, d, text) >= v ? 1 : 0;
        }
        return n;
    }

    int run(int land, int text) {
        int most = 0;
        int round = round(land);
        for (int from = 0; from < round; from++) {
            int d = from;
            while (d < round && read(land, d, text) > stockNow()) {
                d++;
            }
            most = Math.max(most, d - from);
        }
        return most;
    }

    static long part(BigInteger above, BigInteger below, int what) {
        BigInteger g = above.gcd(below);
        return (what == 0 ? above : below).divide(g).longValueExact();
    }

    long average(int land, int text, int what) {
        BigInteger sum = BigInteger.ZERO;
        int round = round(land);
        for (int d = 0; d < round; d++) {
            sum = sum.add(BigInteger.valueOf(read(land, d, text)));
        }
        return part(sum, BigInteger.valueOf(round), what);
    }

    int better(int land, int day, int text) {
        int asTold = read(land, day, text);
        int top = asTold;
        for (int round = 0; round < 2; round++) {
            for (int place = 0; place < texts.get(text).length; place++) {
                for (int w = 0; w < words(); w++) {
                    int[] changed = texts.get(text).clone();
                    changed[place] = w;
                    int left = reading(stockNow(), meanings(land, day), changed)[0];
                    if (round == 0) {
                        top = Math.max(top, left);
                    } else if (left == top && top > asTold) {
                        return place * 10 + w;
                    }
                }
            }
        }
        return -1;
    }

    int richest(int land, int day) {
        int found = -1;
        for (int t = texts.size() - 1; t >= 0; t--) {
            found = found < 0 || read(land, day, t) >= read(land, day, found) ? t : found;
        }
        return found;
    }

    int all(int land, int day) {
        int stock = stockNow();
        for (int[] t : texts) {
            stock = reading(stock, meanings(land, day), t)[0];
        }
        return stock;
    }

    int even(int land, int day) {
        int[] means = meanings(land, day);
        int pairs = 0;
        for (int a = 0; a < means.length; a++) {
            for (int b = a + 1; b < means.length; b++) {
                pairs += means[a] > means[b] ? 1 : 0;
            }
        }
        return pairs % 2 == 0 ? 1 : 0;
    }

    int unlike(int land, long day, int other, long otherDay) {
        int n = 0;
        for (int w = 0; w < words(); w++) {
            n += meanings(land, day)[w] != meanings(other, otherDay)[w] ? 1 : 0;
        }
        return n;
    }

    int like(int land, int day, int other) {
        for (int d = 0; d < FAR; d++) {
            if (unlike(land, day, other, d) == 0) {
                return d;
            }
        }
        return -1;
    }

    /** Two rounds of at most 210 have no more days together than 44,100; so far it is looked. */
    int differ(int land, int other) {
        int enough = round(land) * round(other);
        for (int d = 0; d < enough; d++) {
            if (unlike(land, d, other, d) != 0) {
                return d;
            }
        }
        return -1;
    }

    int differs(int land, int other) {
        int d = differ(land, other);
        for (int w = 0; d >= 0 && w < words(); w++) {
            if (meanings(land, d)[w] != meanings(other, d)[w]) {
                return w;
            }
        }
        return -1;
    }

    int carried(int land, int day, int text, int other, int otherDay) {
        int[] words = texts.get(text).clone();
        for (int i = 0; i < words.length; i++) {
            words[i] = says(other, otherDay, meanings(land, day)[words[i]]);
        }
        return reading(stockNow(), meanings(other, otherDay), words)[0];
    }

    boolean fits(long[] row, int land, int day) {
        for (int i = 0; i < row.length; i += 2) {
            if (read(land, day, (int) row[i]) != row[i + 1]) {
                return false;
            }
        }
        return true;
    }

    List<Integer> fitting(long[] row, int land) {
        List<Integer> days = new ArrayList<>();
        for (int d = 0; d < round(land); d++) {
            if (fits(row, land, d)) {
                days.add(d);
            }
        }
        return days;
    }

    int worstOf(List<Integer> days, int land, int text) {
        Map<Integer, Integer> by = new HashMap<>();
        int worst = 0;
        for (int d : days) {
            worst = Math.max(worst, by.merge(read(land, d, text), 1, Integer::sum));
        }
        return worst;
    }

    int ask(long[] row, int land) {
        List<Integer> days = fitting(row, land);
        int found = -1;
        for (int t = 0; t < texts.size(); t++) {
            int best = found < 0 ? days.size() : worstOf(days, land, found);
            found = worstOf(days, land, t) < best ? t : found;
        }
        return found;
    }

    /** All rows of the fewest words, the least first. */
    List<int[]> wordings(int land, int day, int n, int v) {
        List<int[]> rows = new ArrayList<>();
        rows.add(new int[0]);
        for (int length = 1; length <= 4; length++) {
            List<int[]> longer = new ArrayList<>();
            List<int[]> good = new ArrayList<>();
            for (int[] row : rows) {
                for (int w = 0; w < words(); w++) {
                    int[] more = Arrays.copyOf(row, length);
                    more[length - 1] = w;
                    longer.add(more);
                    boolean leaves = true;
                    for (int d = day; d < day + n && leaves; d++) {
                        leaves = reading(stockNow(), meanings(land, d), more)[0] == v;
                    }
                    if (leaves) {
                        good.add(more);
                    }
                }
            }
            if (!good.isEmpty()) {
                return good;
            }
            rows = longer;
        }
        return new ArrayList<>();
    }

    int heirs(int land, int day, int taken) {
        if (Integer.bitCount(taken) == texts.size()) {
            return 0;
        }
        int best = Integer.MIN_VALUE;
        for (int t = 0; t < texts.size(); t++) {
            if ((taken >> t & 1) == 0) {
                best = Math.max(best, read(land, day, t) - heirs(land, day + 1, taken | 1 << t));
            }
        }
        return best;
    }

    int takes(int land, int day) {
        int best = heirs(land, day, 0);
        for (int t = 0; t < texts.size(); t++) {
            if (read(land, day, t) - heirs(land, day + 1, 1 << t) == best) {
                return t;
            }
        }
        return -1;
    }

    int greedy(int land, int day) {
        List<Integer> left = new ArrayList<>();
        for (int t = 0; t < texts.size(); t++) {
            left.add(t);
        }
        int[] gets = new int[2];
        for (int turn = 0; !left.isEmpty(); turn++) {
            int pick = 0;
            for (int i = 1; i < left.size(); i++) {
                pick = read(land, day + turn, left.get(i)) > read(land, day + turn, left.get(pick)) ? i : pick;
            }
            gets[turn % 2] += read(land, day + turn, left.remove(pick));
        }
        return gets[0] - gets[1];
    }

    /** Sums over every way the nights can go, one by one. */
    long delay(int land, int day, int text, int n, int what, boolean mean) {
        BigInteger sum = BigInteger.ZERO;
        for (int nights = 0; nights < 1 << n; nights++) {
            int late = Integer.bitCount(nights);
            int left = read(land, day + late, text);
            long counts = mean ? left : left > stockNow() ? 1 : 0;
            BigInteger weight = BigInteger.valueOf(odds).pow(late)
                    .multiply(BigInteger.valueOf(10 - odds).pow(n - late));
            sum = sum.add(weight.multiply(BigInteger.valueOf(counts)));
        }
        return part(sum, BigInteger.TEN.pow(n), what);
    }

    int drawn(long seed, int n) {
        BigInteger x = BigInteger.valueOf(seed);
        int late = 0;
        for (int i = 0; i < n; i++) {
            x = x.multiply(BigInteger.valueOf(1103515245)).add(BigInteger.valueOf(12345))
                    .mod(BigInteger.valueOf(2147483648L));
            late += x.longValueExact() / 65536 % 10 < odds ? 1 : 0;
        }
        return late;
    }

    int luck(int seed, int n, int land, int day, int text) {
        int lucky = 0;
        for (int i = 0; i < n; i++) {
            lucky += read(land, day + drawn(seed + (long) i, 7), text) > stockNow() ? 1 : 0;
        }
        return lucky;
    }
}
