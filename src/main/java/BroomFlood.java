/**
 * Brooms that fetch water into a cellar. The numbered promises that this class keeps
 * stand in the document DOC.md; its words (WATER, STAIR, DUE ..) are used here as there.
 */
public final class BroomFlood {
    public static final int BAD = -1, STATE = -2, FULL = -3, NONE = -9;
    public static final int NO = -1000000;

    private static final int BROOMS = 8;
    private static final int MOST_WATER = 99999;
    private static final int MOST_PACE = 40;
    private static final int LAST_MINUTE = 9999;
    private static final int MOST_AHEAD = 200;
    private static final int MOST_PLANNED = 60;
    private static final int MOST_STAIR = 8;
    private static final int MOST_DRAIN = 20;
    private static final int MOST_MEASURED_MINUTE = 40;
    private static final int MOST_ODDS_MINUTES = 40;
    private static final int MOST_STUMBLES = 9;
    private static final int MOST_SPLITS_ON = 6;
    private static final int IMAGES = 2;
    private static final int SO_WITHOUT = 256;

    private final Letters letters;
    private final Reader reader;
    private final Cellar told;
    private final Cellar draft;
    private final Moment present;
    private final Moment ahead;
    private final Past past;
    private final Moment[] images;
    private final boolean[] kept;
    private final Measures measures;
    private final Fraction fraction;
    private final long[] ways;
    private final Kinds kinds;

    public BroomFlood() {
        letters = new Letters();
        reader = new Reader();
        told = new Cellar();
        draft = new Cellar();
        present = new Moment();
        ahead = new Moment();
        past = new Past();
        images = new Moment[IMAGES];
        for (int i = 0; i < IMAGES; i++) {
            images[i] = new Moment();
        }
        kept = new boolean[IMAGES];
        measures = new Measures();
        fraction = new Fraction();
        ways = new long[MOST_STUMBLES + 1];
        kinds = new Kinds();
    }

    // ---- the cellar

    public int type(int letter) {
        if (letter < 0 || letter > 255) {
            return BAD;
        }
        return letters.add(letter) ? letters.length : FULL;
    }

    public int clear() {
        int had = letters.length;
        letters.length = 0;
        return had;
    }

    public int cellar() {
        int items = reader.read(letters, draft);
        if (items < 0) {
            return items;
        }
        told.copyFrom(draft);
        present.copyFrom(told.start);
        letters.length = 0;
        measures.known = 0;
        past.known = 0;
        for (int i = 0; i < IMAGES; i++) {
            kept[i] = false;
        }
        return items;
    }

    public int broom(int b, int what) {
        if (b < 0 || b >= BROOMS) {
            return BAD;
        }
        switch (what) {
            case 0: return present.size[b];
            case 1: return present.pace[b];
            case 2: return present.due[b];
            case 3: return bitOf(present.out, b);
            case 4: return bitOf(present.bored, b);
            case 5: return bitOf(present.wet, b);
            case 6: return bitOf(present.there, b);
            default: return BAD;
        }
    }

    public int now(int what) {
        switch (what) {
            case 0: return present.minutes;
            case 1: return present.water;
            case 2: return told.heightOf(present.water);
            case 3: return present.peak;
            case 4: return present.there;
            case 5: return past.known;
            default: return BAD;
        }
    }

    // ---- what is done

    public int minute() {
        if (present.minutes >= LAST_MINUTE) {
            return STATE;
        }
        past.remember(present);
        present.pass(told.stairWidth(), told.drainCups());
        int height = told.heightOf(present.water);
        present.peak = Math.max(present.peak, height);
        return height;
    }

    public int splits(int b) {
        if (!present.isThere(b)) {
            return BAD;
        }
        if (!present.canSplit(b)) {
            return FULL;
        }
        past.remember(present);
        return present.split(b);
    }

    public int teaches(int b) {
        if (!present.isThere(b)) {
            return BAD;
        }
        past.remember(present);
        present.out ^= 1 << b;
        return bitOf(present.out, b);
    }

    public int bores(int b) {
        if (!present.isThere(b)) {
            return BAD;
        }
        if (bitOf(present.bored, b) == 1) {
            return STATE;
        }
        past.remember(present);
        present.bored |= 1 << b;
        return present.size[b];
    }

    public int burns(int b) {
        if (!present.isThere(b)) {
            return BAD;
        }
        if (bitOf(present.wet, b) == 1) {
            return STATE;
        }
        return takeAway(b);
    }

    public int halts(int b) {
        if (!present.isThere(b)) {
            return BAD;
        }
        return takeAway(b);
    }

    public int undo() {
        if (past.known == 0) {
            return STATE;
        }
        past.bringBack(present);
        return past.known;
    }

    private int takeAway(int b) {
        past.remember(present);
        present.there &= ~(1 << b);
        return Integer.bitCount(present.there);
    }

    // ---- what comes

    public int stands(int n) {
        if (n < 0 || n > MOST_AHEAD) {
            return BAD;
        }
        lookAhead();
        for (int m = 0; m < n; m++) {
            ahead.pass(told.stairWidth(), told.drainCups());
        }
        return told.heightOf(ahead.water);
    }

    public int above() {
        lookAhead();
        for (int m = 0; m <= MOST_AHEAD; m++) {
            if (told.isAboveMark(ahead.water)) {
                return m;
            }
            ahead.pass(told.stairWidth(), told.drainCups());
        }
        return NONE;
    }

    public int most(int n) {
        if (n < 0 || n > MOST_AHEAD) {
            return BAD;
        }
        lookAhead();
        int highest = told.heightOf(ahead.water);
        for (int m = 0; m < n; m++) {
            ahead.pass(told.stairWidth(), told.drainCups());
            highest = Math.max(highest, told.heightOf(ahead.water));
        }
        return highest;
    }

    private void lookAhead() {
        ahead.copyFrom(present);
    }

    // ---- what can be done

    public int teach(int n) {
        return fewest(present.there & ~present.out, true, n);
    }

    public int burn(int n) {
        return fewest(present.there & ~present.wet, false, n);
    }

    public int stair(int n) {
        if (!isPlanned(n)) {
            return BAD;
        }
        for (int wide = MOST_STAIR; wide >= 1; wide--) {
            lookAhead();
            if (staysAtMark(wide, told.drainCups(), n)) {
                return wide;
            }
        }
        return NONE;
    }

    public int drain(int n) {
        if (!isPlanned(n)) {
            return BAD;
        }
        for (int cups = 0; cups <= MOST_DRAIN; cups++) {
            lookAhead();
            if (staysAtMark(told.stairWidth(), cups, n)) {
                return cups;
            }
        }
        return NONE;
    }

    private static boolean isPlanned(int n) {
        return n >= 1 && n <= MOST_PLANNED;
    }

    /** The sets are tried from the least bits on, so that of equally few the least stays. */
    private int fewest(int free, boolean byTeaching, int n) {
        if (!isPlanned(n)) {
            return BAD;
        }
        int best = NONE;
        int bestCount = BROOMS + 1;
        for (int set = 0; set <= free; set++) {
            boolean worthTrying = (set & ~free) == 0 && Integer.bitCount(set) < bestCount;
            if (worthTrying && helps(set, byTeaching, n)) {
                best = set;
                bestCount = Integer.bitCount(set);
            }
        }
        return best;
    }

    private boolean helps(int set, boolean byTeaching, int n) {
        lookAhead();
        if (byTeaching) {
            ahead.out |= set;
        } else {
            ahead.there &= ~set;
        }
        return staysAtMark(told.stairWidth(), told.drainCups(), n);
    }

    /** Whether it never stands above the mark, from what the moment ahead has been set to. */
    private boolean staysAtMark(int stairWidth, int drainCups, int n) {
        boolean high = told.isAboveMark(ahead.water);
        for (int m = 0; m < n && !high; m++) {
            ahead.pass(stairWidth, drainCups);
            high = told.isAboveMark(ahead.water);
        }
        return !high;
    }

    // ---- sums

    public long flow(int what) {
        if (what != 0 && what != 1) {
            return NO;
        }
        fraction.become(0, 1);
        for (int b = 0; b < BROOMS; b++) {
            if (present.isThere(b)) {
                int load = present.loadOf(b);
                fraction.plus(bitOf(present.out, b) == 1 ? -load : load, present.pace[b]);
            }
        }
        return fraction.part(what);
    }

    public int splitOn(int b, int k, int what) {
        if (!present.isThere(b) || k < 0 || k > MOST_SPLITS_ON || what < 0 || what > 1) {
            return BAD;
        }
        // All that come of one broom stay alike, so one SIZE tells of all of them.
        int each = present.size[b] >> k;
        int many = each == 0 ? 0 : 1 << k;
        return what == 0 ? many : many * each;
    }

    public int price(int c, int n) {
        if (c < 1 || c > 9 || n < 0 || n > MOST_AHEAD) {
            return BAD;
        }
        lookAhead();
        int cups = 0;
        for (int m = 0; m < n; m++) {
            ahead.pass(told.stairWidth(), told.drainCups());
            cups += ahead.ranOff;
        }
        return c * cups;
    }

    // ---- words, measures, odds

    public int heard(int b) {
        if (!present.isThere(b)) {
            return BAD;
        }
        lookAhead();
        int hearers = 1 << b;
        for (int m = 0; m <= MOST_AHEAD; m++) {
            if ((ahead.there & ~hearers) == 0) {
                return m;
            }
            ahead.pass(told.stairWidth(), told.drainCups());
            if ((ahead.came & hearers) != 0) {
                hearers |= ahead.came;
            }
        }
        return NONE;
    }

    public int measured(int i, int v) {
        if (i < 0 || i > MOST_MEASURED_MINUTE || v < 0 || v > MOST_WATER) {
            return BAD;
        }
        return measures.add(i, v) ? measures.known : FULL;
    }

    public int forget() {
        int had = measures.known;
        measures.known = 0;
        return had;
    }

    public int splitFirst() {
        ahead.copyFrom(told.start);
        int bits = isAsMeasured() ? SO_WITHOUT : 0;
        for (int b = 0; b < BROOMS; b++) {
            ahead.copyFrom(told.start);
            if (ahead.canSplit(b)) {
                ahead.split(b);
                bits |= isAsMeasured() ? 1 << b : 0;
            }
        }
        return bits;
    }

    /** Whether all that was measured comes so, from what the moment ahead has been set to. */
    private boolean isAsMeasured() {
        boolean so = measures.allowWater(0, ahead.water);
        for (int i = 1; i <= MOST_MEASURED_MINUTE && so; i++) {
            ahead.pass(told.stairWidth(), told.drainCups());
            so = measures.allowWater(i, ahead.water);
        }
        return so;
    }

    public int odds(int b, int p, int n, int k, int what) {
        if (!present.isThere(b) || p < 0 || p > 10 || n < 0 || n > MOST_ODDS_MINUTES) {
            return BAD;
        }
        if (k < 0 || k > MOST_STUMBLES || what < 0 || what > 1) {
            return BAD;
        }
        int times = present.comings(b, n);
        if (times > MOST_STUMBLES) {
            return NO;
        }
        long all = countWays(p, times);
        long good = 0;
        for (int j = k; j <= times; j++) {
            good += ways[j];
        }
        fraction.become(good, all);
        return (int) fraction.part(what);
    }

    /** Sets ways[j] to how many of 10^times (the answer) have it not stumble j times. */
    private long countWays(int p, int times) {
        for (int j = 0; j <= MOST_STUMBLES; j++) {
            ways[j] = j == 0 ? 1 : 0;
        }
        long all = 1;
        for (int t = 0; t < times && t < MOST_STUMBLES; t++) {
            all *= 10;
            for (int j = MOST_STUMBLES; j > 0; j--) {
                ways[j] = ways[j] * p + ways[j - 1] * (10 - p);
            }
            ways[0] *= p;
        }
        return all;
    }

    // ---- kinds, images

    public int rate(int kind, int b) {
        if (b < 0 || b >= BROOMS) {
            return NO;
        }
        int size = present.size[b];
        switch (kind) {
            case 0: return kinds.asBroom(size);
            case 1: return kinds.asWet(size, present.pace[b]);
            case 2: return kinds.asHalf(size, present.due[b]);
            case 3: return kinds.asBored(size, present.pace[b]);
            case 4: return kinds.asBurning(size, present.due[b], b);
            case 5: return kinds.asTeaching(size, told.heightOf(present.water));
            default: return NO;
        }
    }

    public int keep(int image) {
        if (image < 0 || image >= IMAGES) {
            return BAD;
        }
        Moment target = images[image];
        if (target != null) {
            target.copyFrom(present);
            kept[image] = true;
        }
        return present.minutes;
    }

    public int back(int image) {
        if (image < 0 || image >= IMAGES) {
            return BAD;
        }
        Moment source = images[image];
        if (source == null || !kept[image]) {
            return STATE;
        }
        present.copyFrom(source);
        past.known = 0;
        return present.minutes;
    }

    public int count(int what) {
        switch (what) {
            case 0: return told.setting[Cellar.AREA];
            case 1: return told.drainCups();
            case 2: return told.setting[Cellar.MARK];
            case 3: return told.stairWidth();
            case 4: return told.brooms;
            case 5: return measures.known;
            case 6: return letters.length;
            default: return BAD;
        }
    }

    public long trace() {
        return kinds.asked;
    }

    private static int bitOf(int bits, int b) {
        return bits >> b & 1;
    }

    /** All that changes as things are done: what undo() and back() bring again. */
    private static final class Moment {
        int minutes;
        int water;
        int peak;
        final int[] size;
        final int[] pace;
        final int[] due;
        int out;
        int bored;
        int wet;
        int there;
        /** Who came and how much ran off in the latest minute that went by here. */
        int came;
        int ranOff;

        Moment() {
            size = new int[BROOMS];
            pace = new int[BROOMS];
            due = new int[BROOMS];
        }

        void copyFrom(Moment other) {
            minutes = other.minutes;
            water = other.water;
            peak = other.peak;
            for (int b = 0; b < BROOMS; b++) {
                size[b] = other.size[b];
                pace[b] = other.pace[b];
                due[b] = other.due[b];
            }
            out = other.out;
            bored = other.bored;
            wet = other.wet;
            there = other.there;
        }

        void empty() {
            minutes = 0;
            water = 0;
            peak = 0;
            for (int b = 0; b < BROOMS; b++) {
                size[b] = 0;
                pace[b] = 0;
                due[b] = 0;
            }
            out = 0;
            bored = 0;
            wet = 0;
            there = 0;
        }

        void place(int b, int cups, int everyMinutes, int first) {
            if (b < 0 || b >= BROOMS) {
                return;
            }
            size[b] = cups;
            pace[b] = everyMinutes;
            due[b] = first;
            there |= 1 << b;
        }

        boolean isThere(int b) {
            return b >= 0 && b < BROOMS && bitOf(there, b) == 1;
        }

        int loadOf(int b) {
            if (b < 0 || b >= BROOMS) {
                return 0;
            }
            return bitOf(bored, b) == 1 ? size[b] / 2 : size[b];
        }

        void pass(int stairWidth, int drainCups) {
            minutes++;
            came = 0;
            int room = stairWidth;
            for (int b = 0; b < BROOMS; b++) {
                if (isThere(b)) {
                    due[b]--;
                    if (due[b] <= 0 && room > 0) {
                        room--;
                        comes(b);
                    }
                }
            }
            ranOff = Math.min(drainCups, water);
            water -= ranOff;
        }

        private void comes(int b) {
            if (b < 0 || b >= BROOMS) {
                return;
            }
            if (bitOf(out, b) == 1) {
                water = Math.max(0, water - loadOf(b));
            } else {
                water = Math.min(MOST_WATER, water + loadOf(b));
            }
            due[b] = pace[b];
            wet |= 1 << b;
            came |= 1 << b;
        }

        /** Below 0: none is free. */
        private int firstFree() {
            for (int b = 0; b < BROOMS; b++) {
                if (!isThere(b)) {
                    return b;
                }
            }
            return NONE;
        }

        boolean canSplit(int b) {
            return isThere(b) && (size[b] <= 1 || firstFree() >= 0);
        }

        int split(int b) {
            if (!canSplit(b)) {
                return FULL;
            }
            if (size[b] <= 1) {
                there &= ~(1 << b);
                return NONE;
            }
            int other = firstFree();
            size[b] = size[b] / 2;
            pace[b] = Math.min(MOST_PACE, 2 * pace[b]);
            place(other, size[b], pace[b], due[b]);
            out = alike(out, b, other);
            bored = alike(bored, b, other);
            wet = alike(wet, b, other);
            return other;
        }

        /** The bits with that of other as that of b is: an older broom of that number may have left its own. */
        private static int alike(int bits, int b, int other) {
            return bits & ~(1 << other) | bitOf(bits, b) << other;
        }

        /** How often it comes in n minutes if it never has to wait at the stair. */
        int comings(int b, int n) {
            if (!isThere(b) || pace[b] < 1) {
                return 0;
            }
            int first = Math.max(1, due[b]);
            return n < first ? 0 : 1 + (n - first) / pace[b];
        }
    }

    /** The latest moments before something was done, in a ring that loses the oldest. */
    private static final class Past {
        static final int MOST = 8;

        final Moment[] ring;
        int known;
        int latest;

        Past() {
            ring = new Moment[MOST];
            for (int i = 0; i < MOST; i++) {
                ring[i] = new Moment();
            }
        }

        void remember(Moment moment) {
            latest = Math.floorMod(latest + 1, MOST);
            Moment slot = ring[latest];
            if (slot != null) {
                slot.copyFrom(moment);
            }
            known = Math.min(MOST, known + 1);
        }

        void bringBack(Moment moment) {
            Moment slot = ring[latest];
            if (known > 0 && slot != null) {
                moment.copyFrom(slot);
                latest = Math.floorMod(latest - 1, MOST);
                known--;
            }
        }
    }

    /** THE TEXT. */
    private static final class Letters {
        static final int MOST = 200;

        final int[] letter;
        int length;

        Letters() {
            letter = new int[MOST];
        }

        boolean add(int next) {
            if (length < 0 || length >= MOST) {
                return false;
            }
            letter[length] = next;
            length++;
            return true;
        }

        /** Below 0: there is none at that place. */
        int at(int place) {
            return place >= 0 && place < length && place < MOST ? letter[place] : -1;
        }
    }

    /** What a text tells: the cellar, and the moment at which all begins. */
    private static final class Cellar {
        static final int WATER = 0;
        static final int AREA = 1;
        static final int DRAIN = 2;
        static final int MARK = 3;
        static final int STAIR = 4;
        static final int SETTINGS = 5;
        private static final int[] AT_FIRST = {0, 4, 0, 10, 8};

        final int[] setting;
        final Moment start;
        int brooms;

        Cellar() {
            setting = new int[SETTINGS];
            start = new Moment();
            tellNothing();
        }

        void tellNothing() {
            for (int i = 0; i < SETTINGS; i++) {
                setting[i] = AT_FIRST[i];
            }
            brooms = 0;
            start.empty();
        }

        void copyFrom(Cellar other) {
            for (int i = 0; i < SETTINGS; i++) {
                setting[i] = other.setting[i];
            }
            brooms = other.brooms;
            start.copyFrom(other.start);
        }

        void tellSetting(int which, int number) {
            if (which >= 0 && which < SETTINGS) {
                setting[which] = number;
            }
        }

        void tellBroom(int cups, int everyMinutes, int first) {
            start.place(brooms, cups, everyMinutes, first);
            brooms++;
        }

        /** Only behind all items: how high the water stands at first hangs on an AREA told later, too. */
        void begin() {
            start.water = setting[WATER];
            start.peak = heightOf(start.water);
        }

        int heightOf(int water) {
            int area = setting[AREA];
            return area < 1 ? 0 : water / area;
        }

        boolean isAboveMark(int water) {
            return heightOf(water) > setting[MARK];
        }

        int stairWidth() {
            return setting[STAIR];
        }

        int drainCups() {
            return setting[DRAIN];
        }
    }

    /** Reads THE TEXT token by token; where it stops, place is the FAULT. */
    private static final class Reader {
        private static final String ITEM_LETTERS = "wadmsb";
        private static final int BROOM = 5;
        private static final int BROOM_NUMBERS = 3;
        /** The bounds of the number behind w, a, d, m, s and of the three behind b. */
        private static final int[] LEAST = {0, 1, 0, 0, 1, 1, 1, 1};
        private static final int[] GREATEST = {99, 20, 20, 99, 8, 64, 40, 40};
        private static final int GREATEST_NUMBER = 99;
        private static final int AHEAD_OF_FAULT = -10;
        /** Tokens that are neither the end, numbers nor faulty are known by their letter. */
        private static final int END = -1;
        private static final int NUMBER = -2;
        private static final int FAULTY = -3;

        private final int[] numbers;
        private int next;
        private int place;
        private int token;
        private int number;
        private int seen;

        Reader() {
            numbers = new int[BROOM_NUMBERS];
        }

        /** How many items; -10 less FAULT, and then the draft is of no use. */
        int read(Letters letters, Cellar draft) {
            draft.tellNothing();
            next = 0;
            seen = 0;
            int items = 0;
            step(letters);
            for (int i = 0; i < Letters.MOST && token != END; i++) {
                int kind = token < 0 ? NONE : ITEM_LETTERS.indexOf((char) token);
                if (kind < 0 || isOneTooMany(kind, draft) || !readItem(letters, draft, kind)) {
                    return AHEAD_OF_FAULT - place;
                }
                seen |= 1 << kind;
                items++;
                step(letters);
            }
            draft.begin();
            return items;
        }

        private boolean isOneTooMany(int kind, Cellar draft) {
            return kind == BROOM ? draft.brooms >= BROOMS : bitOf(seen, kind) == 1;
        }

        private boolean readItem(Letters letters, Cellar draft, int kind) {
            int many = kind == BROOM ? BROOM_NUMBERS : 1;
            for (int i = 0; i < many && i < BROOM_NUMBERS; i++) {
                step(letters);
                if (token != NUMBER || !isWithin(kind + i)) {
                    return false;
                }
                numbers[i] = number;
            }
            if (kind == BROOM) {
                draft.tellBroom(numbers[0], numbers[1], numbers[2]);
            } else {
                draft.tellSetting(kind, numbers[0]);
            }
            step(letters);
            return token == ';';
        }

        private boolean isWithin(int row) {
            return row >= 0 && row < LEAST.length && row < GREATEST.length
                && number >= LEAST[row] && number <= GREATEST[row];
        }

        /** Goes to the next token; at the end of the text its length is the place. */
        private void step(Letters letters) {
            for (int i = 0; i < Letters.MOST && letters.at(next) == ' '; i++) {
                next++;
            }
            place = next;
            int letter = letters.at(next);
            if (isDigit(letter)) {
                stepOverNumber(letters);
            } else if (letter < 0) {
                token = END;
            } else {
                token = letter;
                next++;
            }
        }

        private void stepOverNumber(Letters letters) {
            int value = 0;
            for (int i = 0; i < Letters.MOST && isDigit(letters.at(next)); i++) {
                // Held just above the greatest, since 200 digits would wrap around.
                value = Math.min(GREATEST_NUMBER + 1, value * 10 + letters.at(next) - '0');
                next++;
            }
            boolean zeroAhead = letters.at(place) == '0' && next - place > 1;
            token = zeroAhead || value > GREATEST_NUMBER ? FAULTY : NUMBER;
            number = value;
        }

        private static boolean isDigit(int letter) {
            return letter >= '0' && letter <= '9';
        }
    }

    /** What was MEASURED. */
    private static final class Measures {
        static final int MOST = 4;

        final int[] atMinute;
        final int[] cups;
        int known;

        Measures() {
            atMinute = new int[MOST];
            cups = new int[MOST];
        }

        boolean add(int i, int v) {
            if (known < 0 || known >= MOST) {
                return false;
            }
            atMinute[known] = i;
            cups[known] = v;
            known++;
            return true;
        }

        boolean allowWater(int i, int water) {
            for (int j = 0; j < known && j < MOST; j++) {
                if (atMinute[j] == i && cups[j] != water) {
                    return false;
                }
            }
            return true;
        }
    }

    /** A fraction in lowest terms, its lower number above 0. */
    private static final class Fraction {
        /** Far above the steps that Euclid's way needs for any two longs. */
        private static final int MOST_STEPS = 200;

        private long upper;
        private long lower = 1;

        void become(long newUpper, long newLower) {
            upper = newUpper;
            lower = newLower;
            long divisor = commonDivisor(Math.abs(newUpper), newLower);
            if (divisor > 1) {
                upper = newUpper / divisor;
                lower = newLower / divisor;
            }
        }

        void plus(long otherUpper, long otherLower) {
            become(upper * otherLower + otherUpper * lower, lower * otherLower);
        }

        long part(int what) {
            return what == 0 ? upper : lower;
        }

        private static long commonDivisor(long one, long other) {
            long a = one;
            long b = other;
            for (int i = 0; i < MOST_STEPS && b != 0; i++) {
                long rest = a % b;
                a = b;
                b = rest;
            }
            return a;
        }
    }

    /** The KINDS: each body adds its own number to what was asked, then asks the one above. */
    private static final class Kinds {
        long asked;

        int asBroom(int size) {
            asked += 1;
            return size;
        }

        int asWet(int size, int pace) {
            asked += 10;
            return asBroom(size) + pace;
        }

        int asHalf(int size, int due) {
            asked += 100;
            return asBroom(size) - due;
        }

        int asBored(int size, int pace) {
            asked += 1000;
            return 2 * asWet(size, pace);
        }

        int asBurning(int size, int due, int b) {
            asked += 10000;
            return asHalf(size, due) + b;
        }

        int asTeaching(int size, int height) {
            asked += 100000;
            return asBroom(size) + height;
        }
    }
}
