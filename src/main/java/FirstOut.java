/** A vow to give up whatever comes first out of the door; see README.md for its use. */
public final class FirstOut {
    public static final int BAD = -1, STATE = -2, FULL = -3, NONE = -9;
    public static final int NO = -1000000;

    private static final int MOST_THINGS = 7;
    private static final int MOST_TRAITS = 5;
    private static final int MOST_WORDS = 31;
    private static final int MOST_DEAR = 99;
    private static final int MOST_EAGER = 9;
    private static final int WAR_PARTS = 10;
    private static final int MOST_WORTH = 999;
    private static final int MOST_LETTERS = 200;
    private static final int MOST_NUMBER = 999;
    private static final int FAULT_BASE = -10;
    private static final int MOST_UNDONE = 10;
    private static final int MOST_SEEN = 6;
    private static final int IMAGES = 2;
    private static final int LAST_DAY = 999;
    private static final int LAST_Z = 9999;
    private static final int MOST_DAYS_LOST = 7;
    private static final int DRAWS = 500;
    private static final int KINDS = 6;

    // Two houses change places when a text is read, so that a faulty text leaves the other as it was.
    private House home;
    private House draft;
    private final Text text;
    private final Standing current;
    private final Standing trial;
    private final Past past;
    private final Standing[] images;
    private final boolean[] imageKept;
    private final Seen seen;
    private long traced;

    public FirstOut() {
        home = new House();
        draft = new House();
        text = new Text();
        current = new Standing();
        trial = new Standing();
        past = new Past();
        images = new Standing[IMAGES];
        for (int i = 0; i < IMAGES; i++) {
            images[i] = new Standing();
        }
        imageKept = new boolean[IMAGES];
        seen = new Seen();
        traced = 0L;
    }

    // ---- the house

    public int type(int letter) {
        if (letter < 0 || letter > 255) {
            return BAD;
        }
        return text.add(letter) ? text.length : FULL;
    }

    public int clear() {
        int had = text.length;
        text.length = 0;
        return had;
    }

    public int house() {
        int items = text.readInto(draft);
        if (items < 0) {
            return items;
        }
        House old = home;
        home = draft;
        draft = old;
        text.length = 0;
        beginAnew();
        return items;
    }

    public int thing(int t, int what) {
        if (!home.holds(t)) {
            return BAD;
        }
        switch (what) {
            case 0: return home.traits[t];
            case 1: return home.dear[t];
            case 2: return home.eager[t];
            case 3: return bitOf(current.knowing, t);
            case 4: return bitOf(current.kept, t);
            case 5: return bitOf(current.given, t);
            case 6: return bitOf(coveredNow(), t);
            case 7: return bitOf(ableNow(), t);
            default: return BAD;
        }
    }

    public int now(int what) {
        switch (what) {
            case 0: return current.date;
            case 1: return current.words;
            case 2: return coveredNow();
            case 3: return ableNow();
            case 4: return current.given;
            case 5: return home.dearTogether(current.given);
            case 6: return past.known;
            default: return BAD;
        }
    }

    // ---- what is done

    public int swears(int words) {
        if (!areWords(words)) {
            return BAD;
        }
        past.push(current);
        current.words = words;
        return Integer.bitCount(coveredNow());
    }

    public int keepsIn(int t, int is) {
        if (!home.holds(t) || !isYesOrNo(is)) {
            return BAD;
        }
        past.push(current);
        int was = bitOf(current.kept, t);
        current.kept = withBit(current.kept, t, is);
        return was;
    }

    public int tells(int t, int is) {
        if (!home.holds(t) || !isYesOrNo(is)) {
            return BAD;
        }
        past.push(current);
        int was = bitOf(current.knowing, t);
        current.knowing = withBit(current.knowing, t, is);
        return was;
    }

    public int day(int z) {
        if (!isZ(z)) {
            return BAD;
        }
        if (current.date >= LAST_DAY) {
            return STATE;
        }
        past.push(current);
        return passDay(current, z);
    }

    public int undo() {
        if (past.known == 0) {
            return STATE;
        }
        past.pop(current);
        return past.known;
    }

    // ---- what it costs

    public int harm(int what) {
        if (!isYesOrNo(what)) {
            return BAD;
        }
        int able = ableNow();
        return partOf(home.harmUpper(able, coveredNow()), home.shares(able), what);
    }

    public int odds(int t, int what) {
        if (!home.holds(t) || !isYesOrNo(what)) {
            return BAD;
        }
        int able = ableNow();
        int upper = bitOf(able, t) == 1 ? home.eager[t] : 0;
        return partOf(upper, home.shares(able), what);
    }

    public int swear(int what) {
        if (!isYesOrNo(what)) {
            return NO;
        }
        int able = ableNow();
        int upper = home.harmUpper(able, coveredNow());
        int lower = home.shares(able);
        int gain = home.help * home.worth * lower;
        int loss = (home.chance + home.help) * upper;
        return partOf(gain - loss, WAR_PARTS * lower, what);
    }

    public int sense(int k) {
        if (k < 0 || k > MOST_TRAITS) {
            return BAD;
        }
        int set = 0;
        for (int t = 0; t < home.things; t++) {
            if (Integer.bitCount(home.traits[t] & current.words) >= k) {
                set |= 1 << t;
            }
        }
        return set & ~current.given;
    }

    public int both(int words) {
        if (!areWords(words)) {
            return BAD;
        }
        return coveredNow() & home.coveredBy(words, current);
    }

    // ---- words, doors

    public int means(int set) {
        if (set < 0 || set >= 1 << home.things) {
            return BAD;
        }
        int best = NONE;
        for (int words = 0; words <= MOST_WORDS; words++) {
            int hit = home.ableBy(words, current) & home.coveredBy(words, current);
            if (hit != 0 && (hit & ~set) == 0) {
                best = fewerWords(best, words);
            }
        }
        return best;
    }

    public int span() {
        int best = NONE;
        for (int words = 0; words <= MOST_WORDS; words++) {
            if (Integer.bitCount(home.coveredBy(words, current)) == 1) {
                best = fewerWords(best, words);
            }
        }
        return best;
    }

    public int shut(int n, int what) {
        if (n < 0 || n > MOST_THINGS || what < 0 || what > 2) {
            return BAD;
        }
        int best = leastHarmful(n);
        if (what == 0) {
            return best;
        }
        int able = ableNow() & ~best;
        return partOf(home.harmUpper(able, coveredNow()), home.shares(able), what - 1);
    }

    public int tell() {
        // Each one that CAN come, is COVERED and DEAR does harm by itself, so it is just these that must be told.
        return home.dearOnes(ableNow() & coveredNow());
    }

    // ---- what was seen

    public int saw(int t, int given) {
        if (!home.holds(t) || !isYesOrNo(given)) {
            return BAD;
        }
        return seen.add(t, given) ? seen.known : FULL;
    }

    public int forget() {
        int had = seen.known;
        seen.known = 0;
        return had;
    }

    public int fit(int what) {
        if (what < 0 || what > 2) {
            return BAD;
        }
        int fitting = 0;
        int least = NONE;
        int shared = MOST_WORDS;
        for (int words = 0; words <= MOST_WORDS; words++) {
            if (seen.isSoBy(home.having(words))) {
                least = fitting == 0 ? words : least;
                shared &= words;
                fitting++;
            }
        }
        if (what == 0) {
            return fitting;
        }
        return what == 1 || fitting == 0 ? least : shared;
    }

    // ---- days

    public int lost(int z, int n) {
        if (!isZ(z) || n < 0 || n > MOST_DAYS_LOST) {
            return BAD;
        }
        trial.become(current);
        for (int i = 0; i < n; i++) {
            passDay(trial, (z + i) % (LAST_Z + 1));
        }
        return trial.given;
    }

    public int draw(int t, int what) {
        if (!home.holds(t) || !isYesOrNo(what)) {
            return BAD;
        }
        int able = ableNow();
        int mine = bitOf(able, t) == 1 ? home.eager[t] : 0;
        int ahead = home.eagerTogether(able & ((1 << t) - 1));
        int together = home.shares(able);
        int times = 0;
        int least = NONE;
        for (int z = 0; z < DRAWS; z++) {
            int place = drawn(z, current.date, together);
            if (place >= ahead && place < ahead + mine) {
                least = times == 0 ? z : least;
                times++;
            }
        }
        return what == 0 ? times : least;
    }

    // ---- kinds, images

    public int rate(int kind, int t) {
        if (kind < 0 || kind >= KINDS || !home.holds(t)) {
            return NO;
        }
        switch (kind) {
            case 1: return rateAsCalf(t);
            case 2: return rateAsChild(t);
            case 3: return rateAsDog(t);
            case 4: return rateAsDrum(t);
            case 5: return rateAsPriest(t);
            default: return rateAsThing(t);
        }
    }

    public int keep(int image) {
        if (image < 0 || image >= IMAGES) {
            return BAD;
        }
        images[image].become(current);
        imageKept[image] = true;
        return current.date;
    }

    public int back(int image) {
        if (image < 0 || image >= IMAGES) {
            return BAD;
        }
        if (!imageKept[image]) {
            return STATE;
        }
        current.become(images[image]);
        past.known = 0;
        return current.date;
    }

    public int count(int what) {
        switch (what) {
            case 0: return home.things;
            case 1: return home.chance;
            case 2: return home.help;
            case 3: return home.worth;
            case 4: return seen.known;
            case 5: return text.length;
            default: return BAD;
        }
    }

    public long trace() {
        return traced;
    }

    // ---- what the calls share

    private void beginAnew() {
        current.words = home.words;
        current.knowing = home.knowing;
        current.kept = 0;
        current.given = 0;
        current.date = 0;
        past.known = 0;
        seen.known = 0;
        for (int i = 0; i < IMAGES; i++) {
            imageKept[i] = false;
        }
    }

    private int coveredNow() {
        return home.coveredBy(current.words, current);
    }

    private int ableNow() {
        return home.ableBy(current.words, current);
    }

    private int passDay(Standing standing, int z) {
        int able = home.ableBy(standing.words, standing);
        int first = NONE;
        if (able != 0) {
            first = home.countedOff(able, drawn(z, standing.date, home.eagerTogether(able)));
        }
        if (first != NONE) {
            standing.given |= home.coveredBy(standing.words, standing) & (1 << first);
        }
        standing.date++;
        return first;
    }

    private int leastHarmful(int n) {
        int able = ableNow();
        int covered = coveredNow();
        int best = 0;
        int bestUpper = home.harmUpper(able, covered);
        int bestLower = home.shares(able);
        for (int set = 1; set < 1 << home.things; set++) {
            if ((set & ~able) != 0 || Integer.bitCount(set) > n) {
                continue;
            }
            int upper = home.harmUpper(able & ~set, covered);
            int lower = home.shares(able & ~set);
            int order = Integer.compare(upper * bestLower, bestUpper * lower);
            if (order < 0 || order == 0 && Integer.bitCount(set) < Integer.bitCount(best)) {
                best = set;
                bestUpper = upper;
                bestLower = lower;
            }
        }
        return best;
    }

    private int rateAsThing(int t) {
        traced += 1;
        return home.dear[t];
    }

    private int rateAsCalf(int t) {
        traced += 10;
        return rateAsThing(t) + home.eager[t];
    }

    private int rateAsChild(int t) {
        traced += 100;
        return rateAsThing(t) - Integer.bitCount(home.traits[t]);
    }

    private int rateAsDog(int t) {
        traced += 1000;
        return 2 * rateAsCalf(t);
    }

    private int rateAsDrum(int t) {
        traced += 10000;
        return rateAsChild(t) + t;
    }

    private int rateAsPriest(int t) {
        traced += 100000;
        return rateAsThing(t) + current.date;
    }

    private static int drawn(int z, int date, int together) {
        long x = 7919L * z + 4253L * date + 1L;
        long d = x * x % 65521L / 8L;
        return together > 0 ? (int) (d % together) : 0;
    }

    /** Words come in rising order, so of as few the one found earlier is the least. */
    private static int fewerWords(int best, int words) {
        return best == NONE || Integer.bitCount(words) < Integer.bitCount(best) ? words : best;
    }

    /** The upper (0) or lower (1) number of a fraction in least terms. */
    private static int partOf(int upper, int lower, int what) {
        int common = commonDivisor(Math.abs(upper), lower);
        if (common == 0) {
            return 0;
        }
        return (what == 0 ? upper : lower) / common;
    }

    private static int commonDivisor(int a, int b) {
        int larger = a;
        int smaller = b;
        // Euclid's way needs fewer than 50 steps for any two ints.
        for (int i = 0; i < 50 && smaller != 0; i++) {
            int rest = larger % smaller;
            larger = smaller;
            smaller = rest;
        }
        return larger;
    }

    private static boolean areWords(int words) {
        return words >= 0 && words <= MOST_WORDS;
    }

    private static boolean isYesOrNo(int is) {
        return is == 0 || is == 1;
    }

    private static boolean isZ(int z) {
        return z >= 0 && z <= LAST_Z;
    }

    private static int bitOf(int set, int t) {
        return set >> t & 1;
    }

    private static int withBit(int set, int t, int is) {
        return is == 1 ? set | 1 << t : set & ~(1 << t);
    }

    /** What a text tells: the things, the vow and the war. */
    private static final class House {
        final int[] traits = new int[MOST_THINGS];
        final int[] dear = new int[MOST_THINGS];
        final int[] eager = new int[MOST_THINGS];
        int things;
        int knowing;
        int words;
        int chance;
        int help;
        int worth;

        House() {
            setBare();
        }

        void setBare() {
            things = 0;
            knowing = 0;
            words = 0;
            chance = 5;
            help = 0;
            worth = 100;
        }

        boolean hasRoom() {
            return things < MOST_THINGS;
        }

        void add(int itsTraits, int howDear, int howEager, int knows) {
            if (!hasRoom()) {
                return;
            }
            traits[things] = itsTraits;
            dear[things] = howDear;
            eager[things] = howEager;
            knowing |= knows << things;
            things++;
        }

        boolean holds(int t) {
            return t >= 0 && t < things;
        }

        int having(int wanted) {
            int set = 0;
            for (int t = 0; t < things; t++) {
                if ((traits[t] & wanted) == wanted) {
                    set |= 1 << t;
                }
            }
            return set;
        }

        int coveredBy(int wanted, Standing standing) {
            return having(wanted) & ~standing.given;
        }

        int ableBy(int wanted, Standing standing) {
            int warned = standing.knowing & coveredBy(wanted, standing);
            return eagerOnes() & ~standing.given & ~standing.kept & ~warned;
        }

        int eagerOnes() {
            int set = 0;
            for (int t = 0; t < things; t++) {
                if (eager[t] > 0) {
                    set |= 1 << t;
                }
            }
            return set;
        }

        int dearOnes(int among) {
            int set = 0;
            for (int t = 0; t < things; t++) {
                if (dear[t] > 0) {
                    set |= among & 1 << t;
                }
            }
            return set;
        }

        int eagerTogether(int set) {
            int sum = 0;
            for (int t = 0; t < things; t++) {
                sum += bitOf(set, t) * eager[t];
            }
            return sum;
        }

        int dearTogether(int set) {
            int sum = 0;
            for (int t = 0; t < things; t++) {
                sum += bitOf(set, t) * dear[t];
            }
            return sum;
        }

        int harmUpper(int able, int covered) {
            int sum = 0;
            for (int t = 0; t < things; t++) {
                sum += bitOf(able & covered, t) * dear[t] * eager[t];
            }
            return sum;
        }

        /** Eager of all together, but never 0: where none can come, a fraction is 0 by 1. */
        int shares(int able) {
            return Math.max(1, eagerTogether(able));
        }

        int countedOff(int able, int place) {
            int left = place;
            for (int t = 0; t < things; t++) {
                int mine = bitOf(able, t) * eager[t];
                if (left < mine) {
                    return t;
                }
                left -= mine;
            }
            return NONE;
        }
    }

    /** What can change while the house stays the same; an image or a step of the past is one of these. */
    private static final class Standing {
        int words;
        int knowing;
        int kept;
        int given;
        int date;

        void become(Standing other) {
            words = other.words;
            knowing = other.knowing;
            kept = other.kept;
            given = other.given;
            date = other.date;
        }
    }

    /** The latest standings, in a ring, so that the oldest makes room for the newest. */
    private static final class Past {
        final Standing[] steps = new Standing[MOST_UNDONE];
        int next;
        int known;

        Past() {
            for (int i = 0; i < MOST_UNDONE; i++) {
                steps[i] = new Standing();
            }
        }

        void push(Standing standing) {
            steps[next].become(standing);
            next = (next + 1) % MOST_UNDONE;
            known = Math.min(known + 1, MOST_UNDONE);
        }

        void pop(Standing standing) {
            next = (next + MOST_UNDONE - 1) % MOST_UNDONE;
            known--;
            standing.become(steps[next]);
        }
    }

    private static final class Seen {
        final int[] who = new int[MOST_SEEN];
        final int[] wasGiven = new int[MOST_SEEN];
        int known;

        boolean add(int t, int given) {
            if (known >= MOST_SEEN) {
                return false;
            }
            who[known] = t;
            wasGiven[known] = given;
            known++;
            return true;
        }

        boolean isSoBy(int having) {
            for (int i = 0; i < known; i++) {
                if (bitOf(having, who[i]) != wasGiven[i]) {
                    return false;
                }
            }
            return true;
        }
    }

    /** The letters, and a reader whose place stays on the first letter of a token that can't stand there. */
    private static final class Text {
        final char[] letters = new char[MOST_LETTERS];
        int length;
        int at;
        boolean vowRead;
        boolean warRead;

        boolean add(int letter) {
            if (length >= MOST_LETTERS) {
                return false;
            }
            letters[length] = (char) letter;
            length++;
            return true;
        }

        /** How many items there are, or the base less the place of the fault. */
        int readInto(House target) {
            target.setBare();
            at = 0;
            vowRead = false;
            warRead = false;
            for (int items = 0; items < MOST_LETTERS; items++) {
                skipBlanks();
                if (at >= length) {
                    return items;
                }
                if (!readItem(target)) {
                    break;
                }
            }
            return FAULT_BASE - at;
        }

        boolean readItem(House target) {
            switch (letters[at]) {
                case 't': return target.hasRoom() && readThing(target);
                case 'v': return !vowRead && readVow(target);
                case 'w': return !warRead && readWar(target);
                default: return false;
            }
        }

        boolean readThing(House target) {
            at++;
            int itsTraits = readNumber(MOST_WORDS);
            int howDear = itsTraits < 0 ? -1 : readNumber(MOST_DEAR);
            int howEager = howDear < 0 ? -1 : readNumber(MOST_EAGER);
            int knows = howEager < 0 ? -1 : readNumber(1);
            if (knows < 0 || !readEnd()) {
                return false;
            }
            target.add(itsTraits, howDear, howEager, knows);
            return true;
        }

        boolean readVow(House target) {
            at++;
            vowRead = true;
            int words = readNumber(MOST_WORDS);
            if (words < 0 || !readEnd()) {
                return false;
            }
            target.words = words;
            return true;
        }

        boolean readWar(House target) {
            at++;
            warRead = true;
            int chance = readNumber(WAR_PARTS);
            int help = chance < 0 ? -1 : readNumber(WAR_PARTS - chance);
            int worth = help < 0 ? -1 : readNumber(MOST_WORTH);
            if (worth < 0 || !readEnd()) {
                return false;
            }
            target.chance = chance;
            target.help = help;
            target.worth = worth;
            return true;
        }

        /** The number that stands here, or -1 where none does that may. */
        int readNumber(int most) {
            skipBlanks();
            int value = 0;
            int end = at;
            while (end < length && letters[end] >= '0' && letters[end] <= '9') {
                // Held just above what any number may be, so that a long one can't wrap around.
                value = Math.min(value * 10 + letters[end] - '0', MOST_NUMBER + 1);
                end++;
            }
            boolean zeroAhead = end - at > 1 && letters[at] == '0';
            if (end == at || zeroAhead || value > most) {
                return -1;
            }
            at = end;
            return value;
        }

        boolean readEnd() {
            skipBlanks();
            if (at >= length || letters[at] != ';') {
                return false;
            }
            at++;
            return true;
        }

        void skipBlanks() {
            while (at < length && letters[at] == ' ') {
                at++;
            }
        }
    }
}
