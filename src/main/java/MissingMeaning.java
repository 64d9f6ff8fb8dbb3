import java.util.Arrays;

/**
 * A book of senses, one fewer than words, of lands in which the words change their meanings day
 * by day, and of texts. Every row that a call needs is made with the object and used again, so
 * that no call makes anything.
 */
public final class MissingMeaning {
    public static final int NONE = -1;

    private static final int NO_SUCH = -2;
    private static final int BELOW_ZERO = -3;
    private static final int FAULTY = -4;
    private static final int REFUSED = -5;
    private static final int NOTHING_THERE = -6;
    private static final int BEYOND = -7;
    private static final int UNLIKE_WIDTHS = -8;
    private static final int NO_SUCH_GAIN = -100_000;

    private static final int MOST_BYTES = 600;
    private static final int MOST_SENSES = 9;
    private static final int MOST_WORDS = 10;
    private static final int MOST_LANDS = 3;
    private static final int MOST_RULES = 7;
    private static final int MOST_TEXTS = 6;
    private static final int MOST_PLACES = 8;
    private static final int MOST_ACTS = 30;
    private static final int MOST_SLOTS = 4;
    private static final int MOST_IMAGES = 3;
    private static final int MOST_NUMBERS = 60;
    private static final int MOST_NIGHTS = 7;
    private static final int MOST_ODDS = 10;
    /** Of a stock as the book or an act tells it, of what is given, of what is taken. */
    private static final int MOST_TOLD = 99;
    private static final int MOST_STOCK = 9_999;
    private static final int MOST_SHIFT = 9;
    private static final int MOST_DAYS_COMPARED = 1_000;
    private static final int MOST_DAYS_ALIKE = 10_000;
    private static final int MOST_LUCK = 20;
    private static final int LAST_WIDTH = 3;
    private static final int LAST_DAY = 1_000_000_000;
    private static final int MOST_TURNS = 1_000_000_000;
    private static final int LAST_SEED = 2_000_000_000;

    /** Ten words come round after 30 turns at most, and a turn has seven rules at most. */
    private static final int MOST_ROUND = 210;

    private static final int GIVE = 0;
    private static final int TAKE = 1;
    private static final int DOUBLE = 2;
    private static final int STOP = 3;
    private static final int SKIP = 4;

    /** A state of reading is the stock, and one of these more if the next word is not read. */
    private static final int SKIPPING = 10_000;
    private static final int STOPPED = 20_000;

    private final Tape tape;
    private final Scribe scribe;
    private final World world;
    private final Book[] images;
    private final boolean[] kept;
    private final Row[] rows;
    private final Tally tally;
    private final Letter letter;
    private final Phrases phrases;
    private final Game game;
    private final Post post;

    public MissingMeaning() {
        tape = new Tape();
        scribe = new Scribe(tape);
        world = new World();
        images = new Book[MOST_IMAGES];
        for (int k = 0; k < MOST_IMAGES; k++) {
            images[k] = new Book();
        }
        kept = new boolean[MOST_IMAGES];
        rows = new Row[MOST_SLOTS];
        for (int slot = 0; slot < MOST_SLOTS; slot++) {
            rows[slot] = new Row();
        }
        tally = new Tally();
        letter = new Letter(world, tally);
        phrases = new Phrases(world);
        game = new Game(world);
        post = new Post(world);
    }

    // The tape and the book

    public int feed(int a, int b, int c, int d, int e) {
        if (tape.length + 20 > MOST_BYTES) {
            return NONE;
        }
        tape.add(a);
        tape.add(b);
        tape.add(c);
        tape.add(d);
        tape.add(e);
        return tape.length;
    }

    public int end(int n) {
        if (n < 0 || n > tape.length) {
            return NONE;
        }
        tape.length = n;
        return n;
    }

    public int book() {
        if (!scribe.copyDown()) {
            return FAULTY;
        }
        tape.length = 0;
        world.turnTo(scribe.draft);
        return world.book.lines;
    }

    public int fault(int what) {
        if (what == 0) {
            return scribe.blamed;
        }
        return what == 1 ? scribe.blamedPlace : NONE;
    }

    public int sense(int sense, int what) {
        if (!isSense(sense) || !isPart(what)) {
            return NO_SUCH;
        }
        return what == 0 ? world.book.kind[sense] : world.book.number[sense];
    }

    public int word(int text, int i) {
        if (!isText(text)) {
            return NO_SUCH;
        }
        if (i < 0 || i >= world.book.textLength[text]) {
            return NONE;
        }
        return world.book.wordAt(text, i);
    }

    public int rule(int land, int rule, int word) {
        if (!isLand(land) || !isWord(word) || rule < 0 || rule >= world.book.ruleCount[land]) {
            return NO_SUCH;
        }
        return world.book.taken(land, rule, word);
    }

    // What words mean

    public int means(int land, int day, int word) {
        if (!isLand(land) || !isDay(day) || !isWord(word)) {
            return NO_SUCH;
        }
        return world.meaning(land, day, word);
    }

    public int says(int land, int day, int sense) {
        if (!isLand(land) || !isDay(day) || !isMeaning(sense)) {
            return NO_SUCH;
        }
        return world.wordFor(land, day, sense);
    }

    public int round(int land) {
        return isLand(land) ? world.period(land) : NO_SUCH;
    }

    public int when(int land, int word, int sense, int day) {
        if (!isLand(land) || !isWord(word) || !isMeaning(sense) || !isDay(day)) {
            return NO_SUCH;
        }
        int period = world.period(land);
        for (int later = 0; later < period; later++) {
            if (world.meaning(land, day + later, word) == sense) {
                return day + later;
            }
        }
        return NONE;
    }

    public int often(int land, int word, int sense) {
        if (!isLand(land) || !isWord(word) || !isMeaning(sense)) {
            return NO_SUCH;
        }
        return world.daysOfMeaning(land, word, sense);
    }

    public int may(int land, int sense) {
        if (!isLand(land) || !isMeaning(sense)) {
            return NO_SUCH;
        }
        int bits = 0;
        int period = world.period(land);
        for (int day = 0; day < period; day++) {
            bits |= 1 << world.wordFor(land, day, sense);
        }
        return bits;
    }

    public int mute(int land) {
        if (!isLand(land)) {
            return NO_SUCH;
        }
        return world.daysOfMeaning(land, mostMute(land), world.book.senseCount);
    }

    public int muted(int land) {
        return isLand(land) ? mostMute(land) : NO_SUCH;
    }

    public int stays(int land, int day) {
        if (!isLand(land) || !isDay(day)) {
            return NO_SUCH;
        }
        return world.book.wordCount() - world.unlikeWords(land, day, land, 0);
    }

    // What a text leaves

    public int read(int land, int day, int text) {
        return isReading(land, day, text) ? world.leaving(land, day, text) : NO_SUCH;
    }

    public int heard(int land, int day, int text) {
        if (!isReading(land, day, text)) {
            return NO_SUCH;
        }
        return Integer.bitCount(world.placesRead(land, day, text));
    }

    public int silent(int land, int day, int text) {
        if (!isReading(land, day, text)) {
            return NO_SUCH;
        }
        int bits = 0;
        for (int i = 0; i < world.book.textLength[text]; i++) {
            if (world.meaning(land, day, world.book.wordAt(text, i)) == world.book.senseCount) {
                bits |= 1 << i;
            }
        }
        return bits;
    }

    public int again(int land, int day, int text) {
        if (!isReading(land, day, text)) {
            return NO_SUCH;
        }
        return world.firstLeaving(land, day + 1, text, world.leaving(land, day, text));
    }

    public int first(int land, int day, int text, int v) {
        if (!isReading(land, day, text) || !isStock(v)) {
            return NO_SUCH;
        }
        return world.firstLeaving(land, day, text, v);
    }

    public int best(int land, int day, int n, int text) {
        if (!isReading(land, day, text) || n < 1 || n > MOST_DAYS_COMPARED) {
            return NO_SUCH;
        }
        return world.topDay(land, day, n, text, 1);
    }

    public int worst(int land, int day, int n, int text) {
        if (!isReading(land, day, text) || n < 1 || n > MOST_DAYS_COMPARED) {
            return NO_SUCH;
        }
        return world.topDay(land, day, n, text, -1);
    }

    public int sorts(int land, int text) {
        if (!isLandAndText(land, text)) {
            return NO_SUCH;
        }
        tally.empty();
        int period = world.period(land);
        for (int day = 0; day < period; day++) {
            tally.add(world.leaving(land, day, text));
        }
        return tally.unlike();
    }

    public int clear(int land, int text) {
        if (!isLandAndText(land, text)) {
            return NO_SUCH;
        }
        int period = world.period(land);
        for (int day = 0; day < period; day++) {
            if (world.isClear(land, day, text)) {
                return day;
            }
        }
        return NONE;
    }

    public int agree(int land, int text, int other) {
        if (!isLandAndText(land, text) || !isText(other)) {
            return NO_SUCH;
        }
        int period = world.period(land);
        for (int day = 0; day < period; day++) {
            if (world.leaving(land, day, text) == world.leaving(land, day, other)) {
                return day;
            }
        }
        return NONE;
    }

    public int days(int land, int text, int v) {
        if (!isLandAndText(land, text) || !isStock(v)) {
            return NO_SUCH;
        }
        int days = 0;
        int period = world.period(land);
        for (int day = 0; day < period; day++) {
            if (world.leaving(land, day, text) >= v) {
                days++;
            }
        }
        return days;
    }

    public int run(int land, int text) {
        if (!isLandAndText(land, text)) {
            return NO_SUCH;
        }
        int longest = 0;
        int now = 0;
        int period = world.period(land);
        for (int day = 0; day < period; day++) {
            now = world.gains(land, day, text) ? now + 1 : 0;
            longest = Math.max(longest, now);
        }
        return longest;
    }

    public int average(int land, int text, int what) {
        if (!isLandAndText(land, text) || !isPart(what)) {
            return NO_SUCH;
        }
        long sum = 0;
        int period = world.period(land);
        for (int day = 0; day < period; day++) {
            sum += world.leaving(land, day, text);
        }
        return (int) inLowestTerms(sum, period, what);
    }

    public int lost(int land, int day, int text) {
        if (!isReading(land, day, text)) {
            return NO_SUCH;
        }
        int places = world.placesRead(land, day, text);
        return world.book.textLength[text] - Integer.bitCount(places);
    }

    public int kinds(int land, int day, int text) {
        if (!isReading(land, day, text)) {
            return NO_SUCH;
        }
        int bits = 0;
        int places = world.placesRead(land, day, text);
        for (int i = 0; i < world.book.textLength[text]; i++) {
            int sense = world.meaning(land, day, world.book.wordAt(text, i));
            if ((places >> i & 1) == 1 && sense < world.book.senseCount) {
                bits |= 1 << world.book.kind[sense];
            }
        }
        return bits;
    }

    public int better(int land, int day, int text) {
        if (!isReading(land, day, text)) {
            return NO_SUCH;
        }
        int found = NONE;
        int most = world.leaving(land, day, text);
        int wordCount = world.book.wordCount();
        for (int place = 0; place < world.book.textLength[text]; place++) {
            for (int word = 0; word < wordCount; word++) {
                int left = world.leavingWith(land, day, text, place, word);
                if (left > most) {
                    most = left;
                    found = 10 * place + word;
                }
            }
        }
        return found;
    }

    public int richest(int land, int day) {
        if (!isLand(land) || !isDay(day)) {
            return NO_SUCH;
        }
        return world.richestOf(land, day, 0);
    }

    public int all(int land, int day) {
        if (!isLand(land) || !isDay(day)) {
            return NO_SUCH;
        }
        int stock = world.book.stockNow;
        for (int text = 0; text < world.book.textCount; text++) {
            stock = world.leavingFrom(stock, land, day, text);
        }
        return stock;
    }

    // Turns

    public int turned(int land, int word, int n) {
        if (!isLand(land) || !isWord(word) || n < 0 || n > MOST_TURNS) {
            return NO_SUCH;
        }
        return world.calendars[land].turnedBy(word, n);
    }

    public int cycle(int land, int word) {
        if (!isLand(land) || !isWord(word)) {
            return NO_SUCH;
        }
        return world.calendars[land].cycleOf(word);
    }

    public int fixed(int land) {
        if (!isLand(land)) {
            return NO_SUCH;
        }
        int bits = 0;
        int wordCount = world.book.wordCount();
        for (int word = 0; word < wordCount; word++) {
            if (world.calendars[land].turn[word] == word) {
                bits |= 1 << word;
            }
        }
        return bits;
    }

    public int order(int land) {
        return isLand(land) ? world.calendars[land].turns : NO_SUCH;
    }

    public int even(int land, int day) {
        if (!isLand(land) || !isDay(day)) {
            return NO_SUCH;
        }
        int pairs = 0;
        int wordCount = world.book.wordCount();
        for (int greater = 1; greater < wordCount; greater++) {
            int sense = world.meaning(land, day, greater);
            for (int lesser = 0; lesser < greater; lesser++) {
                if (world.meaning(land, day, lesser) > sense) {
                    pairs++;
                }
            }
        }
        return 1 - pairs % 2;
    }

    // Land and land

    public int otherwise(int land, int day, int other) {
        if (!isLand(land) || !isDay(day) || !isLand(other)) {
            return NO_SUCH;
        }
        return world.unlikeWords(land, day, other, day);
    }

    public int like(int land, int day, int other) {
        if (!isLand(land) || !isDay(day) || !isLand(other)) {
            return NO_SUCH;
        }
        int period = world.period(other);
        for (int otherDay = 0; otherDay < period; otherDay++) {
            if (world.firstUnlike(land, day, other, otherDay) == NONE) {
                return otherDay;
            }
        }
        return NONE;
    }

    public int carry(int land, int day, int word, int other, int otherDay) {
        if (!isLand(land) || !isDay(day) || !isWord(word) || !isLand(other) || !isDay(otherDay)) {
            return NO_SUCH;
        }
        return world.wordFor(other, otherDay, world.meaning(land, day, word));
    }

    public int carried(int land, int day, int text, int other, int otherDay) {
        if (!isReading(land, day, text) || !isLand(other) || !isDay(otherDay)) {
            return NO_SUCH;
        }
        // What is carried means there what it means here, so it leaves the same.
        return world.leaving(land, day, text);
    }

    public int differ(int land, int other) {
        if (!isLand(land) || !isLand(other)) {
            return NO_SUCH;
        }
        return world.firstDayUnlike(land, other);
    }

    public int differs(int land, int other) {
        if (!isLand(land) || !isLand(other)) {
            return NO_SUCH;
        }
        int day = world.firstDayUnlike(land, other);
        return day == NONE ? NONE : world.firstUnlike(land, day, other, day);
    }

    public int alike(int land, int other, int n) {
        if (!isLand(land) || !isLand(other) || n < 1 || n > MOST_DAYS_ALIKE) {
            return NO_SUCH;
        }
        // Each day is looked at once, and counts as often as it comes round within the n.
        int period = commonMultiple(world.period(land), world.period(other));
        int days = 0;
        for (int day = 0; day < n && day < period; day++) {
            if (world.firstUnlike(land, day, other, day) == NONE) {
                days += (n - 1 - day) / period + 1;
            }
        }
        return days;
    }

    // Torn letters

    public int torn(int slot, int land) {
        int trouble = letterTrouble(slot, land, 0);
        return trouble != 0 ? trouble : letter.gather(rows[slot], land);
    }

    public int date(int slot, int land, int day) {
        int trouble = letterTrouble(slot, land, day);
        return trouble != 0 ? trouble : letter.firstFrom(rows[slot], land, day);
    }

    public int ask(int slot, int land) {
        int trouble = letterTrouble(slot, land, 0);
        if (trouble != 0) {
            return trouble;
        }
        letter.gather(rows[slot], land);
        return letter.question(land);
    }

    public int leaves(int slot, int land) {
        int trouble = letterTrouble(slot, land, 0);
        if (trouble != 0) {
            return trouble;
        }
        int now = letter.gather(rows[slot], land);
        int text = letter.question(land);
        return text == NONE ? now : letter.leftAtWorst(land, text);
    }

    public int lands(int slot, int day) {
        if (!isSlot(slot) || !isDay(day) || world.book.lines == 0) {
            return NO_SUCH;
        }
        int trouble = rowTrouble(rows[slot]);
        if (trouble != 0) {
            return trouble;
        }
        int bits = 0;
        for (int land = 0; land < world.book.landCount; land++) {
            if (letter.fits(rows[slot], land, day)) {
                bits |= 1 << land;
            }
        }
        return bits;
    }

    // Wordings

    public int wording(int land, int day, int n, int v) {
        if (!isTask(land, day, n, v)) {
            return NO_SUCH;
        }
        phrases.seek(land, day, n, v);
        return phrases.found == 0 ? NONE : phrases.length;
    }

    public int worded(int land, int day, int n, int v, int i) {
        if (!isTask(land, day, n, v) || i < 0) {
            return NO_SUCH;
        }
        phrases.seek(land, day, n, v);
        if (phrases.found == 0 || i >= phrases.length) {
            return NONE;
        }
        return phrases.least[i];
    }

    public int wordings(int land, int day, int n, int v) {
        if (!isTask(land, day, n, v)) {
            return NO_SUCH;
        }
        phrases.seek(land, day, n, v);
        return phrases.found;
    }

    // Heirs

    public int heirs(int land, int day) {
        if (!isLand(land) || !isDay(day)) {
            return NO_SUCH_GAIN;
        }
        return game.play(land, day);
    }

    public int takes(int land, int day) {
        if (!isLand(land) || !isDay(day)) {
            return NO_SUCH;
        }
        game.play(land, day);
        return game.opening();
    }

    public int greedy(int land, int day) {
        if (!isLand(land) || !isDay(day)) {
            return NO_SUCH_GAIN;
        }
        return game.playGreedily(land, day);
    }

    // Letters on their way

    public int chance(int land, int day, int text, int n, int what) {
        if (!isReading(land, day, text) || !isNights(n) || !isPart(what)) {
            return NO_SUCH;
        }
        long whole = post.weigh(n);
        long above = 0;
        for (int late = 0; late <= n; late++) {
            if (world.gains(land, day + late, text)) {
                above += post.weight[late];
            }
        }
        return (int) inLowestTerms(above, whole, what);
    }

    public long mean(int land, int day, int text, int n, int what) {
        if (!isReading(land, day, text) || !isNights(n) || !isPart(what)) {
            return NO_SUCH;
        }
        long whole = post.weigh(n);
        long sum = 0;
        for (int late = 0; late <= n; late++) {
            sum += post.weight[late] * world.leaving(land, day + late, text);
        }
        return inLowestTerms(sum, whole, what);
    }

    // Acts

    public int swaps(int land, int word, int other) {
        if (!isLand(land) || !isWord(word) || !isWord(other) || word == other) {
            return NO_SUCH;
        }
        if (world.book.actCount >= MOST_ACTS) {
            return REFUSED;
        }
        int meant = world.book.start[land * MOST_WORDS + word];
        world.book.noteAct(land, word, other);
        world.book.swapStart(land, word, other);
        return meant;
    }

    public int stock(int n) {
        if (world.book.lines == 0 || n < 0 || n > MOST_TOLD) {
            return NO_SUCH;
        }
        if (world.book.actCount >= MOST_ACTS) {
            return REFUSED;
        }
        int was = world.book.stockNow;
        world.book.noteAct(NONE, was, 0);
        world.book.stockNow = n;
        return was;
    }

    public int undo() {
        if (world.book.lines == 0) {
            return NO_SUCH;
        }
        if (world.book.actCount == 0) {
            return REFUSED;
        }
        world.book.takeBackAct();
        return world.book.actCount;
    }

    public int anew() {
        if (world.book.lines == 0) {
            return NO_SUCH;
        }
        int were = world.book.actCount;
        for (int i = 0; i < were; i++) {
            world.book.takeBackAct();
        }
        return were;
    }

    // Draws

    public int drawn(int seed, int n) {
        if (world.book.lines == 0 || !isSeed(seed) || !isNights(n)) {
            return NO_SUCH;
        }
        return post.drawDelay(seed, n);
    }

    public int luck(int seed, int n, int land, int day, int text) {
        if (!isSeed(seed) || n < 1 || n > MOST_LUCK || !isReading(land, day, text)) {
            return NO_SUCH;
        }
        int lucky = 0;
        for (int i = 0; i < n; i++) {
            if (world.gains(land, day + post.drawDelay(seed + i, MOST_NIGHTS), text)) {
                lucky++;
            }
        }
        return lucky;
    }

    public int rate(int sense, int n) {
        if (!isSense(sense) || world.book.kind[sense] > TAKE || n < 0 || n > MOST_TOLD) {
            return NO_SUCH;
        }
        if (world.book.actCount > 0) {
            return REFUSED;
        }
        int was = world.book.number[sense];
        world.book.number[sense] = n;
        return was;
    }

    public int count(int what) {
        switch (what) {
            case 0:
                return world.book.odds;
            case 1:
                return world.book.stockTold;
            case 2:
                return world.book.senseCount;
            case 3:
                return world.book.landCount;
            case 4:
                return world.book.allRules();
            case 5:
                return world.book.textCount;
            case 6:
                return world.book.actCount;
            case 7:
                return world.book.lines;
            case 8:
                return tape.length;
            case 9:
                return rowsPresent();
            default:
                return NONE;
        }
    }

    // Images and rows

    public int image(int k) {
        if (k < 0 || k >= MOST_IMAGES) {
            return NO_SUCH;
        }
        images[k].copyFrom(world.book);
        kept[k] = true;
        return 0;
    }

    public int back(int k) {
        if (k < 0 || k >= MOST_IMAGES) {
            return NO_SUCH;
        }
        if (!kept[k]) {
            return NOTHING_THERE;
        }
        world.turnTo(images[k]);
        return 0;
    }

    public int row(int slot, int width, int n) {
        if (!isSlot(slot) || width < 0 || width > LAST_WIDTH || n > MOST_NUMBERS) {
            return NO_SUCH;
        }
        if (n < 0) {
            return BELOW_ZERO;
        }
        rows[slot].begin(width, n);
        return 0;
    }

    public int write(int slot, int i, long v) {
        if (!isSlot(slot)) {
            return NO_SUCH;
        }
        if (!rows[slot].present) {
            return NOTHING_THERE;
        }
        if (i < 0 || i >= rows[slot].length) {
            return BEYOND;
        }
        rows[slot].put(i, v);
        return 0;
    }

    public int paste(int slot, int i, int to, int k, int n) {
        if (!isSlot(slot) || !isSlot(to)) {
            return NO_SUCH;
        }
        if (!rows[slot].present || !rows[to].present) {
            return NOTHING_THERE;
        }
        if (rows[slot].width != rows[to].width) {
            return UNLIKE_WIDTHS;
        }
        if (!rows[slot].reaches(i, n) || !rows[to].reaches(k, n)) {
            return BEYOND;
        }
        System.arraycopy(rows[slot].numbers, i, rows[to].numbers, k, n);
        return 0;
    }

    // What may be asked

    private boolean isSense(int sense) {
        return sense >= 0 && sense < world.book.senseCount;
    }

    private boolean isMeaning(int sense) {
        return sense >= 0 && sense <= world.book.senseCount;
    }

    private boolean isWord(int word) {
        return word >= 0 && word < world.book.wordCount();
    }

    private boolean isText(int text) {
        return text >= 0 && text < world.book.textCount;
    }

    private boolean isLand(int land) {
        return land >= 0 && land < world.book.landCount;
    }

    private boolean isLandAndText(int land, int text) {
        return isLand(land) && isText(text);
    }

    private boolean isReading(int land, int day, int text) {
        return isLand(land) && isDay(day) && isText(text);
    }

    private boolean isTask(int land, int day, int n, int v) {
        return isLand(land) && isDay(day) && n >= 1 && n <= Phrases.MOST_DAYS && isStock(v);
    }

    private static boolean isDay(int day) {
        return day >= 0 && day <= LAST_DAY;
    }

    private static boolean isStock(int v) {
        return v >= 0 && v <= MOST_STOCK;
    }

    private static boolean isPart(int what) {
        return what == 0 || what == 1;
    }

    private static boolean isNights(int n) {
        return n >= 0 && n <= MOST_NIGHTS;
    }

    private static boolean isSeed(int seed) {
        return seed >= 0 && seed <= LAST_SEED;
    }

    private static boolean isSlot(int slot) {
        return slot >= 0 && slot < MOST_SLOTS;
    }

    private int letterTrouble(int slot, int land, int day) {
        if (!isSlot(slot) || !isLand(land) || !isDay(day)) {
            return NO_SUCH;
        }
        return rowTrouble(rows[slot]);
    }

    private int rowTrouble(Row row) {
        if (!row.present) {
            return NOTHING_THERE;
        }
        return letter.isTold(row) ? 0 : NO_SUCH;
    }

    private int rowsPresent() {
        int present = 0;
        for (int slot = 0; slot < MOST_SLOTS; slot++) {
            if (rows[slot].present) {
                present++;
            }
        }
        return present;
    }

    private int mostMute(int land) {
        int found = 0;
        int most = 0;
        int wordCount = world.book.wordCount();
        for (int word = 0; word < wordCount; word++) {
            int days = world.daysOfMeaning(land, word, world.book.senseCount);
            if (days > most) {
                most = days;
                found = word;
            }
        }
        return found;
    }

    private static long greatestDivisor(long a, long b) {
        long greater = a;
        long lesser = b;
        for (int step = 0; step < 100 && lesser != 0; step++) {
            long rest = greater % lesser;
            greater = lesser;
            lesser = rest;
        }
        return greater;
    }

    private static int commonMultiple(int a, int b) {
        int divisor = (int) greatestDivisor(a, b);
        return divisor == 0 ? 1 : a / divisor * b;
    }

    private static long inLowestTerms(long above, long below, int what) {
        long divisor = greatestDivisor(above, below);
        if (divisor == 0) {
            return 0;
        }
        return (what == 0 ? above : below) / divisor;
    }

    /** The bytes of a book before it is read. */
    private static final class Tape {
        final byte[] bytes = new byte[MOST_BYTES];
        int length;

        /** Four bytes more, which the caller has made sure there is room for. */
        void add(int number) {
            for (int shift = 24; shift >= 0 && length < MOST_BYTES; shift -= 8) {
                bytes[length] = (byte) (number >> shift);
                length++;
            }
        }
    }

    /** What a tape has told, and the acts since. Without lines there is no book. */
    private static final class Book {
        int lines;
        int odds;
        int stockTold;
        int stockNow;
        int senseCount;
        int landCount;
        int textCount;
        int actCount;
        final int[] kind = new int[MOST_SENSES];
        final int[] number = new int[MOST_SENSES];
        final int[] ruleCount = new int[MOST_LANDS];
        final int[] ruleWords = new int[MOST_LANDS * MOST_RULES * MOST_WORDS];
        final int[] textLength = new int[MOST_TEXTS];
        final int[] textWords = new int[MOST_TEXTS * MOST_PLACES];
        /** What each word of each land means on day 0. */
        final int[] start = new int[MOST_LANDS * MOST_WORDS];
        /** The land of each act, NONE where the stock was changed. */
        final int[] actLand = new int[MOST_ACTS];
        /** The first word of each act, or the stock that was. */
        final int[] actFirst = new int[MOST_ACTS];
        final int[] actSecond = new int[MOST_ACTS];

        void wipe() {
            lines = 0;
            odds = 0;
            stockTold = 0;
            stockNow = 0;
            senseCount = 0;
            landCount = 0;
            textCount = 0;
            actCount = 0;
            Arrays.fill(ruleCount, 0);
            Arrays.fill(textLength, 0);
            for (int i = 0; i < start.length; i++) {
                start[i] = i % MOST_WORDS;
            }
        }

        void copyFrom(Book other) {
            lines = other.lines;
            odds = other.odds;
            stockTold = other.stockTold;
            stockNow = other.stockNow;
            senseCount = other.senseCount;
            landCount = other.landCount;
            textCount = other.textCount;
            actCount = other.actCount;
            copyRow(other.kind, kind);
            copyRow(other.number, number);
            copyRow(other.ruleCount, ruleCount);
            copyRow(other.ruleWords, ruleWords);
            copyRow(other.textLength, textLength);
            copyRow(other.textWords, textWords);
            copyRow(other.start, start);
            copyRow(other.actLand, actLand);
            copyRow(other.actFirst, actFirst);
            copyRow(other.actSecond, actSecond);
        }

        private static void copyRow(int[] from, int[] to) {
            System.arraycopy(from, 0, to, 0, Math.min(from.length, to.length));
        }

        int wordCount() {
            return senseCount + 1;
        }

        int wordAt(int text, int place) {
            return textWords[text * MOST_PLACES + place];
        }

        /** Puts the next word of a text, which the caller has made sure there is room for. */
        void setWordAt(int text, int place, int word) {
            textWords[text * MOST_PLACES + place] = word;
            textLength[text] = place + 1;
        }

        int taken(int land, int rule, int word) {
            return ruleWords[(land * MOST_RULES + rule) * MOST_WORDS + word];
        }

        void setTaken(int land, int rule, int word, int to) {
            ruleWords[(land * MOST_RULES + rule) * MOST_WORDS + word] = to;
        }

        int allRules() {
            int sum = 0;
            for (int land = 0; land < landCount; land++) {
                sum += ruleCount[land];
            }
            return sum;
        }

        void swapStart(int land, int word, int other) {
            int meant = start[land * MOST_WORDS + word];
            start[land * MOST_WORDS + word] = start[land * MOST_WORDS + other];
            start[land * MOST_WORDS + other] = meant;
        }

        void noteAct(int land, int first, int second) {
            if (actCount < MOST_ACTS) {
                actLand[actCount] = land;
                actFirst[actCount] = first;
                actSecond[actCount] = second;
                actCount++;
            }
        }

        void takeBackAct() {
            if (actCount <= 0) {
                return;
            }
            actCount--;
            if (actLand[actCount] == NONE) {
                stockNow = actFirst[actCount];
            } else {
                swapStart(actLand[actCount], actFirst[actCount], actSecond[actCount]);
            }
        }
    }

    /** Reads a tape into a draft, token by token, up to the first fault. */
    private static final class Scribe {
        private static final int THE_END = 0;
        private static final int BLANK = 1;
        private static final int NAME = 2;
        private static final int NUMBER = 3;
        private static final int SIGN = 4;
        private static final int NO_TOKEN = 5;

        private static final int MISPLACED = 1;
        private static final int OUT_OF_BOUNDS = 2;
        private static final int TOO_MANY = 3;

        /** Above every bound, and so what a number of any length may be cut to. */
        private static final int HUGE = 1_000_000;

        private final Tape tape;
        final Book draft = new Book();
        int blamed;
        int blamedPlace = NONE;
        private int token;
        private int tokenStart;
        private int tokenEnd;
        private int tokenNumber;

        Scribe(Tape tape) {
            this.tape = tape;
        }

        boolean copyDown() {
            draft.wipe();
            blamed = 0;
            blamedPlace = NONE;
            tokenEnd = 0;
            nextToken();
            for (int i = 0; i < MOST_BYTES && blamed == 0 && token != THE_END; i++) {
                takeLine();
                takeIf(token == SIGN);
                draft.lines++;
            }
            draft.stockNow = draft.stockTold;
            return blamed == 0;
        }

        private void takeLine() {
            if (draft.lines == 0) {
                takeBookLine();
            } else if (isName("sense")) {
                takeSenseLine();
            } else if (isName("land")) {
                takeLandLine();
            } else if (isName("rule")) {
                if (opensRule()) {
                    takeRule(draft.landCount - 1);
                }
            } else if (isName("text")) {
                takeTextLine();
            } else {
                blame(MISPLACED);
            }
        }

        private void takeBookLine() {
            takeIf(isName("book"));
            takeIf(isName("odds"));
            draft.odds = takeNumber(0, MOST_ODDS);
            takeIf(isName("stock"));
            draft.stockTold = takeNumber(0, MOST_TOLD);
        }

        private void takeSenseLine() {
            if (draft.landCount > 0 || draft.textCount > 0) {
                blame(MISPLACED);
            } else if (draft.senseCount >= MOST_SENSES) {
                blame(TOO_MANY);
            } else {
                nextToken();
                int kind = kindTold();
                takeIf(kind != NONE);
                boolean counted = kind == GIVE || kind == TAKE;
                draft.kind[draft.senseCount] = kind;
                draft.number[draft.senseCount] = counted ? takeNumber(0, MOST_TOLD) : 0;
                draft.senseCount++;
            }
        }

        private int kindTold() {
            if (isName("give")) {
                return GIVE;
            }
            if (isName("take")) {
                return TAKE;
            }
            if (isName("double")) {
                return DOUBLE;
            }
            if (isName("stop")) {
                return STOP;
            }
            return isName("skip") ? SKIP : NONE;
        }

        private void takeLandLine() {
            if (draft.landCount >= MOST_LANDS) {
                blame(TOO_MANY);
            } else {
                nextToken();
                draft.landCount++;
            }
        }

        /** Whether a rule can stand there; if so, it takes each word to itself as yet. */
        private boolean opensRule() {
            int land = draft.landCount - 1;
            if (land < 0) {
                blame(MISPLACED);
                return false;
            }
            if (draft.ruleCount[land] >= MOST_RULES) {
                blame(TOO_MANY);
                return false;
            }
            shiftAll(land, draft.ruleCount[land], 0);
            nextToken();
            return true;
        }

        private void takeRule(int land) {
            int rule = draft.ruleCount[land];
            if (isName("shift")) {
                nextToken();
                shiftAll(land, rule, takeNumber(1, MOST_SHIFT));
            } else if (isName("swap")) {
                nextToken();
                int first = takeNumber(0, draft.senseCount);
                refuse(first);
                int second = takeNumber(0, draft.senseCount);
                draft.setTaken(land, rule, first, second);
                draft.setTaken(land, rule, second, first);
            } else if (isName("turn")) {
                nextToken();
                int first = takeNumber(0, draft.senseCount);
                refuse(first);
                int second = takeNumber(0, draft.senseCount);
                refuse(first);
                refuse(second);
                int third = takeNumber(0, draft.senseCount);
                draft.setTaken(land, rule, first, second);
                draft.setTaken(land, rule, second, third);
                draft.setTaken(land, rule, third, first);
            } else {
                takeIf(isName("rest"));
            }
            draft.ruleCount[land]++;
        }

        private void shiftAll(int land, int rule, int shift) {
            int wordCount = Math.max(1, draft.wordCount());
            for (int word = 0; word < wordCount; word++) {
                draft.setTaken(land, rule, word, (word + shift) % wordCount);
            }
        }

        private void takeTextLine() {
            if (draft.textCount >= MOST_TEXTS) {
                blame(TOO_MANY);
                return;
            }
            nextToken();
            int text = draft.textCount;
            draft.textCount++;
            draft.setWordAt(text, 0, takeNumber(0, draft.senseCount));
            for (int place = 1; place < MOST_PLACES && blamed == 0 && token == NUMBER; place++) {
                draft.setWordAt(text, place, takeNumber(0, draft.senseCount));
            }
            if (blamed == 0 && token == NUMBER) {
                blame(tokenNumber <= draft.senseCount ? TOO_MANY : OUT_OF_BOUNDS);
            }
        }

        /** Of faults only the first is kept: what is read behind it does not count. */
        private void blame(int what) {
            if (blamed == 0) {
                blamed = what;
                blamedPlace = tokenStart;
            }
        }

        private void takeIf(boolean fitting) {
            if (!fitting) {
                blame(MISPLACED);
            } else if (blamed == 0) {
                nextToken();
            }
        }

        /** The number that stands there, or the least one behind a fault. */
        private int takeNumber(int least, int most) {
            if (token != NUMBER) {
                blame(MISPLACED);
            } else if (tokenNumber < least || tokenNumber > most) {
                blame(OUT_OF_BOUNDS);
            }
            if (blamed != 0) {
                return least;
            }
            int number = tokenNumber;
            nextToken();
            return number;
        }

        private void refuse(int word) {
            if (token == NUMBER && tokenNumber == word) {
                blame(OUT_OF_BOUNDS);
            }
        }

        private boolean isName(String name) {
            int length = name.length();
            if (token != NAME || tokenEnd - tokenStart != length || tokenEnd > tape.length) {
                return false;
            }
            for (int i = 0; i < length; i++) {
                if (tape.bytes[tokenStart + i] != name.charAt(i)) {
                    return false;
                }
            }
            return true;
        }

        private void nextToken() {
            int start = tokenEnd;
            while (start < tape.length && partAt(start) == BLANK) {
                start++;
            }
            token = partAt(start);
            int end = start < tape.length ? start + 1 : start;
            boolean mayBeLonger = token == NAME || token == NUMBER;
            while (mayBeLonger && end < tape.length && partAt(end) == token) {
                end++;
            }
            tokenStart = start;
            tokenEnd = end;
            tokenNumber = token == NUMBER ? numberTold() : 0;
        }

        private int numberTold() {
            int number = 0;
            for (int place = tokenStart; place < tokenEnd && number < HUGE; place++) {
                number = 10 * number + tape.bytes[place] - '0';
            }
            return number;
        }

        /** What the byte at a place can be part of. */
        private int partAt(int place) {
            if (place < 0 || place >= tape.length) {
                return THE_END;
            }
            int sign = tape.bytes[place];
            if (sign == ' ' || sign == 10) {
                return BLANK;
            }
            if (sign >= 'a' && sign <= 'z') {
                return NAME;
            }
            if (sign >= '0' && sign <= '9') {
                return NUMBER;
            }
            return sign == ';' ? SIGN : NO_TOKEN;
        }
    }

    /** The days of one land until all comes round. */
    private static final class Calendar {
        /** For each day and word: the word whose meaning of day 0 it has. */
        private final int[] source = new int[MOST_ROUND * MOST_WORDS];
        final int[] turn = new int[MOST_WORDS];
        private int wordCount = 1;
        int turns = 1;
        int period = 1;

        void lay(Book book, int land) {
            wordCount = book.wordCount();
            layTurn(book, land);
            // Behind that many days both the words and the rules are as at first.
            int whole = Math.min(MOST_ROUND, Math.max(1, book.ruleCount[land]) * turns);
            layDays(book, land, whole);
            period = leastPeriod(whole);
        }

        private void layTurn(Book book, int land) {
            for (int word = 0; word < wordCount; word++) {
                int at = word;
                for (int rule = book.ruleCount[land] - 1; rule >= 0; rule--) {
                    at = book.taken(land, rule, at);
                }
                turn[word] = at;
            }
            turns = 1;
            for (int word = 0; word < wordCount; word++) {
                turns = commonMultiple(turns, cycleOf(word));
            }
        }

        private void layDays(Book book, int land, int whole) {
            int rules = book.ruleCount[land];
            for (int word = 0; word < wordCount; word++) {
                source[word] = word;
            }
            for (int day = 1; day < whole; day++) {
                for (int word = 0; word < wordCount; word++) {
                    int at = rules == 0 ? word : book.taken(land, (day - 1) % rules, word);
                    source[day * MOST_WORDS + word] = source[(day - 1) * MOST_WORDS + at];
                }
            }
        }

        private int leastPeriod(int whole) {
            for (int tried = 1; tried < whole; tried++) {
                if (whole % tried == 0 && comesRound(tried, whole)) {
                    return tried;
                }
            }
            return whole;
        }

        private boolean comesRound(int tried, int whole) {
            for (int day = tried; day < whole; day++) {
                for (int word = 0; word < wordCount; word++) {
                    int now = source[day * MOST_WORDS + word];
                    if (now != source[(day - tried) * MOST_WORDS + word]) {
                        return false;
                    }
                }
            }
            return true;
        }

        int sourceOf(int day, int word) {
            return period < 1 ? word : source[day % period * MOST_WORDS + word];
        }

        int cycleOf(int word) {
            int at = word;
            for (int n = 1; n <= MOST_WORDS; n++) {
                at = turn[at];
                if (at == word) {
                    return n;
                }
            }
            return 1;
        }

        int turnedBy(int word, int n) {
            int cycle = cycleOf(word);
            int rest = cycle < 1 ? 0 : n % cycle;
            int at = word;
            for (int i = 0; i < rest; i++) {
                at = turn[at];
            }
            return at;
        }
    }

    /** The book and its lands' days: what all questions are asked of, in bounds. */
    private static final class World {
        final Book book = new Book();
        final Calendar[] calendars = new Calendar[MOST_LANDS];

        World() {
            for (int land = 0; land < MOST_LANDS; land++) {
                calendars[land] = new Calendar();
            }
        }

        void turnTo(Book other) {
            book.copyFrom(other);
            for (int land = 0; land < book.landCount; land++) {
                calendars[land].lay(book, land);
            }
        }

        int period(int land) {
            return calendars[land].period;
        }

        int meaning(int land, int day, int word) {
            return book.start[land * MOST_WORDS + calendars[land].sourceOf(day, word)];
        }

        int wordFor(int land, int day, int sense) {
            int found = 0;
            for (int word = 0; word <= book.senseCount; word++) {
                if (meaning(land, day, word) == sense) {
                    found = word;
                }
            }
            return found;
        }

        int daysOfMeaning(int land, int word, int sense) {
            int days = 0;
            for (int day = 0; day < period(land); day++) {
                if (meaning(land, day, word) == sense) {
                    days++;
                }
            }
            return days;
        }

        int unlikeWords(int land, int day, int other, int otherDay) {
            int unlike = 0;
            for (int word = 0; word <= book.senseCount; word++) {
                if (meaning(land, day, word) != meaning(other, otherDay, word)) {
                    unlike++;
                }
            }
            return unlike;
        }

        int firstUnlike(int land, int day, int other, int otherDay) {
            for (int word = 0; word <= book.senseCount; word++) {
                if (meaning(land, day, word) != meaning(other, otherDay, word)) {
                    return word;
                }
            }
            return NONE;
        }

        int firstDayUnlike(int land, int other) {
            // Two rows that come round and are alike for as long as both rounds together
            // are alike for ever (Fine and Wilf).
            int enough = period(land) + period(other);
            for (int day = 0; day < enough; day++) {
                if (firstUnlike(land, day, other, day) != NONE) {
                    return day;
                }
            }
            return NONE;
        }

        /** The state of reading behind a word that means a sense, or nothing. */
        int after(int state, int sense) {
            if (state >= STOPPED) {
                return state;
            }
            if (state >= SKIPPING) {
                return state - SKIPPING;
            }
            if (sense >= book.senseCount) {
                return state;
            }
            switch (book.kind[sense]) {
                case GIVE:
                    return Math.min(MOST_STOCK, state + book.number[sense]);
                case TAKE:
                    return Math.max(0, state - book.number[sense]);
                case DOUBLE:
                    return Math.min(MOST_STOCK, 2 * state);
                case STOP:
                    return state + STOPPED;
                case SKIP:
                    return state + SKIPPING;
                default:
                    return state;
            }
        }

        int leaving(int land, int day, int text) {
            return leavingFrom(book.stockNow, land, day, text);
        }

        int leavingFrom(int stock, int land, int day, int text) {
            int state = stock;
            for (int i = 0; i < book.textLength[text] && state < STOPPED; i++) {
                state = after(state, meaning(land, day, book.wordAt(text, i)));
            }
            return state % SKIPPING;
        }

        int leavingWith(int land, int day, int text, int place, int word) {
            int state = book.stockNow;
            for (int i = 0; i < book.textLength[text] && state < STOPPED; i++) {
                int at = i == place ? word : book.wordAt(text, i);
                state = after(state, meaning(land, day, at));
            }
            return state % SKIPPING;
        }

        int placesRead(int land, int day, int text) {
            int bits = 0;
            int state = book.stockNow;
            for (int i = 0; i < book.textLength[text]; i++) {
                if (state < SKIPPING) {
                    bits |= 1 << i;
                }
                state = after(state, meaning(land, day, book.wordAt(text, i)));
            }
            return bits;
        }

        boolean gains(int land, int day, int text) {
            return leaving(land, day, text) > book.stockNow;
        }

        int firstLeaving(int land, int day, int text, int stock) {
            for (int later = 0; later < period(land); later++) {
                if (leaving(land, day + later, text) == stock) {
                    return day + later;
                }
            }
            return NONE;
        }

        /** The first of n days on which sign times the stock left is greatest. */
        int topDay(int land, int day, int n, int text, int sign) {
            int found = day;
            int top = sign * leaving(land, day, text);
            // Behind a round no day can be above those that it had.
            for (int later = 1; later < n && later < period(land); later++) {
                int left = sign * leaving(land, day + later, text);
                if (left > top) {
                    top = left;
                    found = day + later;
                }
            }
            return found;
        }

        boolean isClear(int land, int day, int text) {
            int seen = 1 << book.senseCount;
            for (int i = 0; i < book.textLength[text]; i++) {
                int bit = 1 << meaning(land, day, book.wordAt(text, i));
                if ((seen & bit) != 0) {
                    return false;
                }
                seen |= bit;
            }
            return true;
        }

        /** The first text that leaves most, of those not taken (as bits). */
        int richestOf(int land, int day, int taken) {
            int found = NONE;
            int most = NONE;
            for (int text = 0; text < book.textCount; text++) {
                int left = (taken >> text & 1) == 1 ? NONE : leaving(land, day, text);
                if (left > most) {
                    most = left;
                    found = text;
                }
            }
            return found;
        }
    }

    /** A slot's row. Numbers of each width are kept as long ones, cut when they are put. */
    private static final class Row {
        boolean present;
        int width;
        int length;
        final long[] numbers = new long[MOST_NUMBERS];

        void begin(int widthTold, int n) {
            present = true;
            width = widthTold;
            length = Math.min(n, MOST_NUMBERS);
            Arrays.fill(numbers, 0L);
        }

        void put(int i, long v) {
            switch (width) {
                case 0:
                    numbers[i] = (byte) v;
                    break;
                case 1:
                    numbers[i] = (short) v;
                    break;
                case 2:
                    numbers[i] = (int) v;
                    break;
                default:
                    numbers[i] = v;
                    break;
            }
        }

        boolean reaches(int from, int n) {
            return from >= 0 && n >= 0 && n <= length && from <= length - n;
        }
    }

    /** What a text leaves on days of a round, put side by side so that each is read but once. */
    private static final class Tally {
        private final int[] stocks = new int[MOST_ROUND];
        private int size;

        void empty() {
            size = 0;
        }

        void add(int stock) {
            if (size < MOST_ROUND) {
                stocks[size] = stock;
                size++;
            }
        }

        int mostAlike() {
            int most = 0;
            for (int i = 0; i < size; i++) {
                most = Math.max(most, alikeFrom(i));
            }
            return most;
        }

        int unlike() {
            int unlike = 0;
            for (int i = 0; i < size; i++) {
                // Of those with one stock only the last has none like it behind.
                if (alikeFrom(i) == 1) {
                    unlike++;
                }
            }
            return unlike;
        }

        private int alikeFrom(int start) {
            int alike = 0;
            for (int i = start; i < size; i++) {
                if (stocks[i] == stocks[start]) {
                    alike++;
                }
            }
            return alike;
        }
    }

    /** A torn letter: the days of a round on which it can have been read. */
    private static final class Letter {
        private final World world;
        private final Tally tally;
        private final int[] fitting = new int[MOST_ROUND];
        private int fittingCount;

        Letter(World world, Tally tally) {
            this.world = world;
            this.tally = tally;
        }

        boolean isTold(Row row) {
            if (row.length % 2 != 0) {
                return false;
            }
            for (int i = 0; i + 1 < row.length; i += 2) {
                long text = row.numbers[i];
                long left = row.numbers[i + 1];
                if (text < 0 || text >= world.book.textCount || left < 0 || left > MOST_STOCK) {
                    return false;
                }
            }
            return true;
        }

        boolean fits(Row row, int land, int day) {
            for (int i = 0; i + 1 < row.length; i += 2) {
                if (world.leaving(land, day, (int) row.numbers[i]) != row.numbers[i + 1]) {
                    return false;
                }
            }
            return true;
        }

        int firstFrom(Row row, int land, int day) {
            int period = world.period(land);
            for (int later = 0; later < period; later++) {
                if (fits(row, land, day + later)) {
                    return day + later;
                }
            }
            return NONE;
        }

        int gather(Row row, int land) {
            fittingCount = 0;
            int period = world.period(land);
            for (int day = 0; day < period && day < MOST_ROUND; day++) {
                if (fits(row, land, day)) {
                    fitting[fittingCount] = day;
                    fittingCount++;
                }
            }
            return fittingCount;
        }

        /** The text to ask for, of the days gathered. */
        int question(int land) {
            int found = NONE;
            int fewest = fittingCount;
            for (int text = 0; text < world.book.textCount; text++) {
                int left = leftAtWorst(land, text);
                if (left < fewest) {
                    fewest = left;
                    found = text;
                }
            }
            return found;
        }

        int leftAtWorst(int land, int text) {
            tally.empty();
            for (int i = 0; i < fittingCount; i++) {
                tally.add(world.leaving(land, fitting[i], text));
            }
            return tally.mostAlike();
        }
    }

    /** The search for the fewest words that leave a stock on each of several days. */
    private static final class Phrases {
        static final int MOST_DAYS = 7;
        private static final int MOST_LENGTH = 4;

        private final World world;
        private final int[] meanings = new int[MOST_DAYS * MOST_WORDS];
        private final int[] states = new int[MOST_DAYS];
        private final int[] tried = new int[MOST_LENGTH];
        final int[] least = new int[MOST_LENGTH];
        private int dayCount;
        private int wanted;
        int length;
        int found;

        Phrases(World world) {
            this.world = world;
        }

        void seek(int land, int day, int n, int v) {
            dayCount = Math.min(n, MOST_DAYS);
            wanted = v;
            found = 0;
            length = 0;
            for (int i = 0; i < dayCount; i++) {
                for (int word = 0; word <= world.book.senseCount; word++) {
                    meanings[i * MOST_WORDS + word] = world.meaning(land, day + i, word);
                }
            }
            for (int tryLength = 1; tryLength <= MOST_LENGTH && found == 0; tryLength++) {
                length = tryLength;
                tryAll();
            }
        }

        /** Tries all rows of one length, the least first. */
        private void tryAll() {
            int beginnings = 1;
            for (int i = 1; i < length; i++) {
                beginnings *= world.book.wordCount();
            }
            for (int number = 0; number < beginnings; number++) {
                spell(number);
                readBeginning();
                for (int last = 0; last <= world.book.senseCount; last++) {
                    if (leavesWanted(last)) {
                        keep(last);
                    }
                }
            }
        }

        /** Numbers in their order spell beginnings in theirs. */
        private void spell(int number) {
            int wordCount = Math.max(1, world.book.wordCount());
            int rest = number;
            for (int i = length - 2; i >= 0; i--) {
                tried[i] = rest % wordCount;
                rest /= wordCount;
            }
        }

        private void readBeginning() {
            for (int day = 0; day < dayCount; day++) {
                int state = world.book.stockNow;
                for (int i = 0; i < length - 1; i++) {
                    state = world.after(state, meanings[day * MOST_WORDS + tried[i]]);
                }
                states[day] = state;
            }
        }

        private boolean leavesWanted(int last) {
            for (int day = 0; day < dayCount; day++) {
                int state = world.after(states[day], meanings[day * MOST_WORDS + last]);
                if (state % SKIPPING != wanted) {
                    return false;
                }
            }
            return true;
        }

        private void keep(int last) {
            if (found == 0) {
                System.arraycopy(tried, 0, least, 0, MOST_LENGTH);
                least[length - 1] = last;
            }
            found++;
        }
    }

    /** Two heirs who take the texts by turns, one a day. */
    private static final class Game {
        private static final int MOST_TAKEN = 1 << MOST_TEXTS;

        private final World world;
        /** What each text leaves on the day of each turn. */
        private final int[] gain = new int[MOST_TEXTS * MOST_TEXTS];
        /** How much more he whose turn it is gets from then on, by the texts taken. */
        private final int[] worth = new int[MOST_TAKEN];

        Game(World world) {
            this.world = world;
        }

        int play(int land, int day) {
            int texts = world.book.textCount;
            for (int turn = 0; turn < texts; turn++) {
                for (int text = 0; text < texts; text++) {
                    gain[turn * MOST_TEXTS + text] = world.leaving(land, day + turn, text);
                }
            }
            int allTaken = (1 << texts) - 1;
            worth[allTaken] = 0;
            for (int taken = allTaken - 1; taken >= 0; taken--) {
                worth[taken] = worthOf(taken, bestMove(taken));
            }
            return worth[0];
        }

        int opening() {
            return bestMove(0);
        }

        private int bestMove(int taken) {
            int found = NONE;
            for (int text = 0; text < world.book.textCount; text++) {
                boolean free = (taken >> text & 1) == 0;
                if (free && (found == NONE || worthOf(taken, text) > worthOf(taken, found))) {
                    found = text;
                }
            }
            return found;
        }

        private int worthOf(int taken, int text) {
            if (text < 0) {
                return 0;
            }
            int turn = Integer.bitCount(taken);
            return gain[turn * MOST_TEXTS + text] - worth[taken | 1 << text];
        }

        int playGreedily(int land, int day) {
            int more = 0;
            int sign = 1;
            int taken = 0;
            for (int turn = 0; turn < world.book.textCount; turn++) {
                int text = world.richestOf(land, day + turn, taken);
                if (text != NONE) {
                    more += sign * world.leaving(land, day + turn, text);
                    taken |= 1 << text;
                }
                sign = -sign;
            }
            return more;
        }
    }

    /** Letters that are delayed, by chance or by draws. */
    private static final class Post {
        private final World world;
        /** In how many of the weighed whole a letter is delayed by so many days. */
        final long[] weight = new long[MOST_NIGHTS + 1];

        Post(World world) {
            this.world = world;
        }

        /** Weighs the delays of so many nights; answers the whole. */
        long weigh(int nights) {
            Arrays.fill(weight, 0L);
            weight[0] = 1;
            long whole = 1;
            for (int night = 0; night < nights && night < MOST_NIGHTS; night++) {
                for (int late = night + 1; late >= 1; late--) {
                    weight[late] = weight[late] * (MOST_ODDS - world.book.odds)
                            + weight[late - 1] * world.book.odds;
                }
                weight[0] *= MOST_ODDS - world.book.odds;
                whole *= MOST_ODDS;
            }
            return whole;
        }

        int drawDelay(int seed, int nights) {
            long x = seed;
            int late = 0;
            for (int night = 0; night < nights; night++) {
                x = (1_103_515_245L * x + 12_345L) % 2_147_483_648L;
                if (x / 65_536L % 10L < world.book.odds) {
                    late++;
                }
            }
            return late;
        }
    }
}
