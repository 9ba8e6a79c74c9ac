/** Silk weighed dry: bales, the looks taken at them, the rules they are weighed by, and the papers on them. */
public final class SilkHouse {
    public static final int NONE = -1, UNKNOWN = -100001, OUTSIDE = -100002, NOT = -100003, FULL = -100004;

    private static final int LAST_DAY = 3000;

    private final Skeins skeins = new Skeins();
    private final Scales scales = new Scales();
    private final Bales bales = new Bales();
    private final Book book = new Book();
    private final Reader reader = new Reader(book);
    private final Judge judge = new Judge(skeins, book);
    private final Doubts doubts = new Doubts(skeins);
    private final Ovens ovens = new Ovens();
    private final Neighbours neighbours = new Neighbours();
    private final Papers papers = new Papers();
    private int now = 0;

    public SilkHouse() {
    }

    // ---- bales, skeins, scales

    public int go(int n) {
        if (!within(n, 0, 999)) {
            return OUTSIDE;
        }
        if (now + n > LAST_DAY) {
            return NOT;
        }
        now += n;
        return now;
    }

    public int bale(int gross) {
        if (!within(gross, 1, 99999)) {
            return OUTSIDE;
        }
        if (bales.number >= Bales.MOST) {
            return FULL;
        }
        return bales.bring(gross);
    }

    public int skein(int b, int look, int scale, int raw, int dry, int oven, int hand) {
        if (!bales.has(b)) {
            return UNKNOWN;
        }
        if (!within(look, 0, 2) || !within(scale, 0, 3) || !within(oven, 0, 3) || !within(hand, 0, 7)) {
            return OUTSIDE;
        }
        if (!within(raw, 100, 9999) || !within(dry, 50, raw)) {
            return OUTSIDE;
        }
        if (skeins.number >= Skeins.MOST || skeins.drawn(b, look) >= Skeins.MOST_OF_LOOK) {
            return FULL;
        }
        int s = skeins.draw(b, look, now);
        skeins.weigh(s, scale, raw, dry);
        skeins.dryIn(s, oven, hand);
        return s;
    }

    public int lose(int s) {
        if (!skeins.has(s)) {
            return UNKNOWN;
        }
        if (skeins.get(s, Skeins.LOST) != NONE) {
            return NOT;
        }
        skeins.dropOut(s, now);
        return 1;
    }

    public int told(int s, int what) {
        if (!skeins.has(s)) {
            return UNKNOWN;
        }
        return within(what, Skeins.BALE, Skeins.LOST) ? skeins.get(s, what) : OUTSIDE;
    }

    public int test(int scale, int shown, int weight) {
        if (!within(scale, 0, 3) || !within(shown, 1, 9999) || !within(weight, 1, 9999)) {
            return OUTSIDE;
        }
        if (scales.number >= Scales.MOST) {
            return FULL;
        }
        return scales.note(scale, now, shown - weight);
    }

    public int error(int scale, int day, int what) {
        if (!within(scale, 0, 3) || !within(day, 0, LAST_DAY) || !within(what, 0, 1)) {
            return OUTSIDE;
        }
        return what == 0 ? scales.least(scale, day) : scales.greatest(scale, day);
    }

    public int ratio(int b, int look, int what) {
        if (!bales.has(b)) {
            return UNKNOWN;
        }
        if (!within(look, 0, 2) || !within(what, 0, 2)) {
            return OUTSIDE;
        }
        judge.gather(b, now);
        if (what == 2) {
            return judge.piles.skeins[look];
        }
        if (judge.piles.skeins[look] == 0) {
            return NOT;
        }
        return (int) inLeastTerms(judge.piles.dry[look], judge.piles.raw[look], what);
    }

    public int count(int what) {
        switch (what) {
            case 0:
                return now;
            case 1:
                return bales.number;
            case 2:
                return skeins.number;
            case 3:
                return skeins.lost;
            case 4:
                return scales.number;
            case 5:
                return book.number;
            case 6:
                return papers.number;
            case 7:
                return balesIn(Judge.SETTLED);
            case 8:
                return balesIn(Judge.PARTED);
            case 9:
                return reader.length;
            case 10:
                return fees();
            default:
                return OUTSIDE;
        }
    }

    private int balesIn(int wanted) {
        int found = 0;
        for (int b = 0; b < bales.number; b++) {
            if (judge.weighUp(b, now) == wanted) {
                found++;
            }
        }
        return found;
    }

    private int fees() {
        int sum = 0;
        for (int p = 0; p < papers.number; p++) {
            if (papers.isCertificate(p) && papers.on[p] == NONE) {
                sum += book.holding(Book.FEE, papers.day[p]);
            }
        }
        return sum;
    }

    // ---- rules

    public int feed(int n, long bytes) {
        if (!within(n, 1, 8)) {
            return OUTSIDE;
        }
        return reader.length + n > Reader.MOST_BYTES ? FULL : reader.take(n, bytes);
    }

    public int rule(int day) {
        if (!within(day, 0, LAST_DAY)) {
            return OUTSIDE;
        }
        if (book.number >= Book.MOST) {
            return FULL;
        }
        int found = reader.read();
        return found == 0 ? book.enact(day) : -10 - found;
    }

    public int fault() {
        return reader.faultByte;
    }

    public int force(int name, int day) {
        if (!within(name, Book.WATER, Book.TAKE) || !within(day, 0, LAST_DAY)) {
            return OUTSIDE;
        }
        return book.holding(name, day);
    }

    public int letter(int clause, int i) {
        return book.has(clause) ? book.letterOf(clause, i) : UNKNOWN;
    }

    // ---- what a bale is

    public int state(int b, int day) {
        if (!bales.has(b)) {
            return UNKNOWN;
        }
        return within(day, 0, now) ? judge.weighUp(b, day) : OUTSIDE;
    }

    public long lawful(int b, int day, int what) {
        if (!bales.has(b)) {
            return UNKNOWN;
        }
        if (!within(day, 0, now) || !within(what, 0, 1)) {
            return OUTSIDE;
        }
        if (judge.weighUp(b, day) != Judge.SETTLED) {
            return NOT;
        }
        return inLeastTerms(judge.upper() * moistened(b, day), judge.lower() * 1000, what);
    }

    /** GROSS times (1000 and water): times a RATIO it is a thousand times the LAWFUL weight. */
    private long moistened(int b, int day) {
        return bales.gross[b] * (1000L + book.holding(Book.WATER, day));
    }

    public long span(int b, int what) {
        if (!bales.has(b)) {
            return UNKNOWN;
        }
        if (!within(what, 0, 3)) {
            return OUTSIDE;
        }
        judge.gather(b, now);
        if (judge.piles.skeins[0] == 0) {
            return NOT;
        }
        // DRY is never above RAW, so the RATIO falls as both lose more: the greatest ERRORS make it least.
        long less = errors(b, what < 2);
        long up = (judge.piles.dry[0] - less) * moistened(b, now);
        return inLeastTerms(up, (judge.piles.raw[0] - less) * 1000, what % 2);
    }

    /** The greatest (or least) ERRORS of all SKEINS of LOOK 0 together. */
    private int errors(int b, boolean greatest) {
        int sum = 0;
        for (int s = 0; s < skeins.number; s++) {
            if (skeins.isOf(s, b, 0) && skeins.counts(s, now)) {
                int scale = skeins.get(s, Skeins.SCALE);
                int day = skeins.get(s, Skeins.DAY);
                int drift = greatest ? scales.greatest(scale, day) : scales.least(scale, day);
                sum += Math.max(-40, Math.min(40, drift));
            }
        }
        return sum;
    }

    public int cause(int b, int i) {
        if (!bales.has(b)) {
            return UNKNOWN;
        }
        doubts.lookAt(b, now, book.holding(Book.PART, now));
        return doubts.isParted() ? doubts.culprit(i) : NOT;
    }

    public int odd(int b, int look) {
        if (!bales.has(b)) {
            return UNKNOWN;
        }
        if (!within(look, 0, 2)) {
            return OUTSIDE;
        }
        doubts.lookAt(b, now, book.holding(Book.PART, now));
        return doubts.oddPairs(look);
    }

    public int needed(int b, int risk) {
        if (!bales.has(b)) {
            return UNKNOWN;
        }
        if (!within(risk, 1, 100)) {
            return OUTSIDE;
        }
        doubts.lookAt(b, now, book.holding(Book.PART, now));
        return doubts.fewest(risk);
    }

    // ---- threads, cheats

    public int thread(int b, int weight) {
        if (!bales.has(b)) {
            return UNKNOWN;
        }
        if (!within(weight, 1, 999)) {
            return OUTSIDE;
        }
        return bales.threads[b] >= Bales.MOST_THREADS ? FULL : bales.reel(b, weight);
    }

    public int size(int b, int what) {
        if (!bales.has(b)) {
            return UNKNOWN;
        }
        if (!within(what, 0, 3)) {
            return OUTSIDE;
        }
        if (bales.threads[b] == 0) {
            return NONE;
        }
        long n = bales.threads[b];
        long sum = bales.allSizes(b);
        if (what < 2) {
            return (int) inLeastTerms(sum, n, what);
        }
        // The mean of squared differences is the mean of squares less the square of the mean.
        return (int) inLeastTerms(n * bales.allSquares(b) - sum * sum, n * n, what % 2);
    }

    public int named(int b, int day) {
        if (!bales.has(b)) {
            return UNKNOWN;
        }
        if (!within(day, 0, LAST_DAY)) {
            return OUTSIDE;
        }
        if (bales.threads[b] == 0) {
            return NONE;
        }
        return book.naming(bales.allSizes(b), bales.threads[b], day);
    }

    public int turns(int b, int v) {
        if (!bales.has(b)) {
            return UNKNOWN;
        }
        if (!within(v, 0, 999)) {
            return OUTSIDE;
        }
        return bales.twists[b] >= Bales.MOST_TWISTS ? FULL : bales.untwist(b, v);
    }

    public int twist(int b) {
        return bales.has(b) ? bales.middleTwist(b) : UNKNOWN;
    }

    public int burnt(int b, int what, int low, int high) {
        if (!bales.has(b)) {
            return UNKNOWN;
        }
        if (!within(what, 0, 1) || !within(low, 0, 999) || !within(high, low, 999)) {
            return OUTSIDE;
        }
        // No answer asks for the upper end: a CHEAT is told by what must be there at least.
        if (what == 0) {
            bales.gum[b] = low;
        } else {
            bales.ash[b] = low;
        }
        return 1;
    }

    public int cheat(int b, int g, int a, int w) {
        if (!bales.has(b)) {
            return UNKNOWN;
        }
        if (!within(g, 0, 999) || !within(a, 0, 999) || !within(w, 0, 999)) {
            return OUTSIDE;
        }
        int set = bales.gum[b] > g ? 1 : 0;
        if (bales.ash[b] > a) {
            set += 2;
        }
        if (bales.gum[b] + bales.ash[b] + loss(b) > w) {
            set += 4;
        }
        return set;
    }

    private int loss(int b) {
        judge.gather(b, now);
        long raw = judge.piles.raw[0];
        return raw == 0 ? 0 : (int) (1000 * (raw - judge.piles.dry[0]) / raw);
    }

    // ---- ovens, houses

    public int load(int minutes) {
        if (!within(minutes, 1, 999)) {
            return OUTSIDE;
        }
        return ovens.number >= Ovens.MOST ? FULL : ovens.bring(minutes);
    }

    public int order(int m, int i) {
        if (!within(m, 1, Ovens.MOST_OVENS)) {
            return OUTSIDE;
        }
        ovens.arrange(m);
        if (i == NONE) {
            return ovens.bestEnd;
        }
        return within(i, 0, ovens.number - 1) ? ovens.best[i] : NONE;
    }

    public int empty() {
        return ovens.clear();
    }

    public int shared(int low, int high, int lowThere, int highThere) {
        if (!within(low, 1, 9999) || !within(high, low, 9999)) {
            return OUTSIDE;
        }
        if (!within(lowThere, 1, 9999) || !within(highThere, lowThere, 9999)) {
            return OUTSIDE;
        }
        if (neighbours.number >= Neighbours.MOST) {
            return FULL;
        }
        return neighbours.compare(low - highThere, high - lowThere);
    }

    public int houses(int what) {
        if (!within(what, 0, 2)) {
            return OUTSIDE;
        }
        if (neighbours.number == 0) {
            return NOT;
        }
        int out = neighbours.leastLeftOut();
        if (what == 2) {
            return out;
        }
        return what == 0 ? neighbours.leastWithout(out) : neighbours.greatestWithout(out);
    }

    // ---- papers

    public int certify(int b) {
        if (!bales.has(b)) {
            return UNKNOWN;
        }
        if (papers.certified(b) || judge.weighUp(b, now) != Judge.SETTLED) {
            return NOT;
        }
        if (!papers.hasRoom(1)) {
            return FULL;
        }
        long lower = judge.lower() * 1000;
        long weight = lower == 0 ? 0 : judge.upper() * moistened(b, now) / lower;
        return papers.write(Papers.CERTIFICATE, b, (int) weight, NONE, now);
    }

    public int bill(int paper, int price) {
        if (!papers.has(paper)) {
            return UNKNOWN;
        }
        if (!within(price, 0, 999)) {
            return OUTSIDE;
        }
        if (!papers.isCertificate(paper) || papers.isUndone(paper)) {
            return NOT;
        }
        if (!papers.hasRoom(1)) {
            return FULL;
        }
        return papers.write(Papers.BILL, papers.bale[paper], papers.amount[paper] * price, paper, now);
    }

    public int cut(int paper, int a, int b) {
        if (!papers.has(paper)) {
            return UNKNOWN;
        }
        if (a < 1 || b < 1 || (long) a + b != papers.amount[paper]) {
            return OUTSIDE;
        }
        if (!papers.isCertificate(paper) || papers.isUndone(paper) || papers.isBilled(paper)) {
            return NOT;
        }
        if (!papers.hasRoom(2)) {
            return FULL;
        }
        papers.undone[paper] = now;
        int first = papers.write(Papers.CERTIFICATE, papers.bale[paper], a, paper, now);
        papers.write(Papers.CERTIFICATE, papers.bale[paper], b, paper, now);
        return first;
    }

    public int undo(int paper) {
        if (!papers.has(paper)) {
            return UNKNOWN;
        }
        if (!papers.isCertificate(paper) || papers.isUndone(paper)) {
            return NOT;
        }
        return papers.tear(paper, now);
    }

    public int paper(int p, int what) {
        if (!papers.has(p)) {
            return UNKNOWN;
        }
        switch (what) {
            case 0:
                return papers.kind[p];
            case 1:
                return papers.bale[p];
            case 2:
                return papers.amount[p];
            case 3:
                return papers.on[p];
            case 4:
                return papers.day[p];
            case 5:
                return papers.undone[p];
            case 6:
                return papers.hanging(p);
            default:
                return OUTSIDE;
        }
    }

    public long stood(int day, int what) {
        if (!within(day, 0, now) || !within(what, 0, 1)) {
            return OUTSIDE;
        }
        return papers.standing(day, what == 0 ? Papers.BILL : Papers.CERTIFICATE);
    }

    private static boolean within(int n, int least, int most) {
        return n >= least && n <= most;
    }

    /** The upper (what = 0) or lower number (1) of a fraction in least terms. */
    private static long inLeastTerms(long upper, long lower, int what) {
        long common = greatestDivisor(upper, lower);
        long part = what == 0 ? upper : lower;
        return common == 0 ? part : part / common;
    }

    private static long greatestDivisor(long a, long b) {
        // Euclid's way takes fewer than a hundred steps on longs.
        for (int step = 0; step < 100 && b != 0; step++) {
            long rest = a % b;
            a = b;
            b = rest;
        }
        return a;
    }

    /** Three piles of SKEINS, each with what it weighs raw and dry; a pile's RATIO is dry by raw. */
    private static final class Piles {
        final long[] raw = new long[3];
        final long[] dry = new long[3];
        final int[] skeins = new int[3];

        void clear() {
            for (int p = 0; p < 3; p++) {
                raw[p] = 0;
                dry[p] = 0;
                skeins[p] = 0;
            }
        }

        void put(int p, int rawWeight, int dryWeight) {
            raw[p] += rawWeight;
            dry[p] += dryWeight;
            skeins[p]++;
        }

        void remove(int p, int rawWeight, int dryWeight) {
            raw[p] -= rawWeight;
            dry[p] -= dryWeight;
            skeins[p]--;
        }

        /** Whether a thousand times the difference of two RATIOS is above a bound. */
        boolean differ(int p, int q, int bound) {
            return 1000 * Math.abs(dry[p] * raw[q] - dry[q] * raw[p]) > bound * raw[p] * raw[q];
        }

        /** The RATIO of a pile times all three raw weights: whole numbers that can be held against one another. */
        long level(int p) {
            return dry[p] * raw[(p + 1) % 3] * raw[(p + 2) % 3];
        }
    }

    /** SKEINS, a row each, in the order in which told() counts. */
    private static final class Skeins {
        static final int MOST = 60, MOST_OF_LOOK = 12;
        static final int BALE = 0, LOOK = 1, SCALE = 2, RAW = 3, DRY = 4, OVEN = 5, HAND = 6, DAY = 7, LOST = 8;
        private static final int WIDTH = 9;

        private final int[] rows = new int[MOST * WIDTH];
        int number = 0;
        int lost = 0;

        boolean has(int s) {
            return s >= 0 && s < number;
        }

        int get(int s, int what) {
            return rows[s * WIDTH + what];
        }

        private void set(int s, int what, int value) {
            rows[s * WIDTH + what] = value;
        }

        int drawn(int b, int look) {
            int found = 0;
            for (int s = 0; s < number; s++) {
                if (isOf(s, b, look)) {
                    found++;
                }
            }
            return found;
        }

        int draw(int b, int look, int day) {
            int s = number;
            set(s, BALE, b);
            set(s, LOOK, look);
            set(s, DAY, day);
            set(s, LOST, NONE);
            number++;
            return s;
        }

        void weigh(int s, int scale, int raw, int dry) {
            set(s, SCALE, scale);
            set(s, RAW, raw);
            set(s, DRY, dry);
        }

        void dryIn(int s, int oven, int hand) {
            set(s, OVEN, oven);
            set(s, HAND, hand);
        }

        void dropOut(int s, int day) {
            set(s, LOST, day);
            lost++;
        }

        boolean isOf(int s, int b, int look) {
            return get(s, BALE) == b && get(s, LOOK) == look;
        }

        boolean counts(int s, int day) {
            return get(s, DAY) <= day && (get(s, LOST) == NONE || get(s, LOST) > day);
        }
    }

    /** TESTS of SCALES; they come in the order of their DAYS. */
    private static final class Scales {
        static final int MOST = 30;

        private final int[] scale = new int[MOST];
        private final int[] day = new int[MOST];
        private final int[] drift = new int[MOST];
        int number = 0;

        int note(int onScale, int onDay, int by) {
            scale[number] = onScale;
            day[number] = onDay;
            drift[number] = by;
            number++;
            return number;
        }

        int least(int onScale, int onDay) {
            int before = lastBy(onScale, onDay);
            int after = firstAfter(onScale, onDay);
            return Math.min(driftOf(before, after), driftOf(after, before));
        }

        int greatest(int onScale, int onDay) {
            int before = lastBy(onScale, onDay);
            int after = firstAfter(onScale, onDay);
            return Math.max(driftOf(before, after), driftOf(after, before));
        }

        private int driftOf(int t, int otherwise) {
            if (t != NONE) {
                return drift[t];
            }
            return otherwise == NONE ? 0 : drift[otherwise];
        }

        private int lastBy(int onScale, int onDay) {
            int last = NONE;
            for (int t = 0; t < number; t++) {
                if (scale[t] == onScale && day[t] <= onDay) {
                    last = t;
                }
            }
            return last;
        }

        private int firstAfter(int onScale, int onDay) {
            for (int t = 0; t < number; t++) {
                if (scale[t] == onScale && day[t] > onDay) {
                    return t;
                }
            }
            return NONE;
        }
    }

    /** BALES, with their THREADS, turns, GUM and ASH. */
    private static final class Bales {
        static final int MOST = 10, MOST_THREADS = 12, MOST_TWISTS = 8;

        final int[] gross = new int[MOST];
        final int[] threads = new int[MOST];
        final int[] twists = new int[MOST];
        final int[] gum = new int[MOST];
        final int[] ash = new int[MOST];
        private final int[] sizes = new int[MOST * MOST_THREADS];
        // The turns of each BALE stand in rising order.
        private final int[] turnRows = new int[MOST * MOST_TWISTS];
        int number = 0;

        boolean has(int b) {
            return b >= 0 && b < number;
        }

        int bring(int weight) {
            gross[number] = weight;
            number++;
            return number - 1;
        }

        int reel(int b, int weight) {
            sizes[b * MOST_THREADS + threads[b]] = 2 * weight;
            threads[b]++;
            return threads[b];
        }

        /** All SIZES of a BALE together. */
        int allSizes(int b) {
            int sum = 0;
            for (int t = 0; t < threads[b]; t++) {
                sum += sizes[b * MOST_THREADS + t];
            }
            return sum;
        }

        long allSquares(int b) {
            long sum = 0;
            for (int t = 0; t < threads[b]; t++) {
                long one = sizes[b * MOST_THREADS + t];
                sum += one * one;
            }
            return sum;
        }

        int untwist(int b, int v) {
            int first = b * MOST_TWISTS;
            int place = first + twists[b];
            while (place > first && turnRows[place - 1] > v) {
                turnRows[place] = turnRows[place - 1];
                place--;
            }
            turnRows[place] = v;
            twists[b]++;
            return twists[b];
        }

        int middleTwist(int b) {
            return twists[b] == 0 ? NONE : turnRows[b * MOST_TWISTS + (twists[b] - 1) / 2];
        }
    }

    /** RULES, clause by clause, and what holds by them on a DAY. */
    private static final class Book {
        static final int MOST = 8, MOST_CLAUSES = 12, MOST_LETTERS = 8;
        static final int WATER = 0, SKEINS = 1, PART = 2, LOOKS = 3, FEE = 4, TAKE = 5, NAME = 6, STRIKE = 7;
        static final int LEAST = 1, MIDDLE = 2;
        private static final int[] AT_FIRST = {110, 3, 5, 2, 10, 0};

        private final int[] day = new int[MOST];
        private final int[] clauses = new int[MOST];
        private final int[] kind = new int[MOST * MOST_CLAUSES];
        private final int[] first = new int[MOST * MOST_CLAUSES];
        private final int[] second = new int[MOST * MOST_CLAUSES];
        private final byte[] letters = new byte[MOST * MOST_CLAUSES * MOST_LETTERS];
        private final boolean[] counting = new boolean[MOST];
        int number = 0;
        // Clauses of the text that is being read: they stand behind the last RULE, which they may become.
        int drafted = 0;

        void startDraft() {
            drafted = 0;
        }

        void draft(int ofKind, int a, int b) {
            if (number < MOST && drafted < MOST_CLAUSES) {
                int c = number * MOST_CLAUSES + drafted;
                kind[c] = ofKind;
                first[c] = a;
                second[c] = b;
                drafted++;
            }
        }

        /** Writes a WORD beside the clause that is drafted next. */
        void draftWord(byte[] text, int from, int to) {
            if (number < MOST && drafted < MOST_CLAUSES) {
                int start = (number * MOST_CLAUSES + drafted) * MOST_LETTERS;
                for (int k = 0; k < MOST_LETTERS; k++) {
                    letters[start + k] = from + k < to ? text[from + k] : 0;
                }
            }
        }

        int enact(int fromDay) {
            day[number] = fromDay;
            clauses[number] = drafted;
            number++;
            return number - 1;
        }

        boolean has(int clause) {
            return clause >= 0 && clause / 100 < number && clause % 100 < clauses[clause / 100];
        }

        int letterOf(int clause, int i) {
            int c = clause / 100 * MOST_CLAUSES + clause % 100;
            if (kind[c] != NAME || i < 0 || i >= MOST_LETTERS) {
                return NONE;
            }
            byte sign = letters[c * MOST_LETTERS + i];
            return sign == 0 ? NONE : sign;
        }

        /** What holds on a DAY of a name, or of take. */
        int holding(int ofKind, int onDay) {
            findCounting(onDay);
            int value = AT_FIRST[ofKind];
            int since = NONE;
            for (int r = 0; r < number; r++) {
                int c = lastOf(r, ofKind);
                if (counting[r] && c != NONE && day[r] >= since) {
                    value = first[c];
                    since = day[r];
                }
            }
            return value;
        }

        private int lastOf(int r, int ofKind) {
            int last = NONE;
            for (int c = r * MOST_CLAUSES; c < r * MOST_CLAUSES + clauses[r]; c++) {
                if (kind[c] == ofKind) {
                    last = c;
                }
            }
            return last;
        }

        /** The last name clause that counts on a DAY for THREADS whose SIZES are so much together. */
        int naming(int sizes, int threads, int onDay) {
            findCounting(onDay);
            int clause = NONE;
            int since = NONE;
            for (int r = 0; r < number; r++) {
                int c = lastNaming(r, sizes, threads);
                if (counting[r] && c != NONE && day[r] >= since) {
                    clause = r * 100 + c;
                    since = day[r];
                }
            }
            return clause;
        }

        private int lastNaming(int r, int sizes, int threads) {
            int last = NONE;
            for (int k = 0; k < clauses[r]; k++) {
                int c = r * MOST_CLAUSES + k;
                if (kind[c] == NAME && first[c] * threads <= sizes && sizes < second[c] * threads) {
                    last = k;
                }
            }
            return last;
        }

        /** A strike names an earlier RULE, so from the last down each is decided before it is asked about. */
        private void findCounting(int onDay) {
            for (int r = number - 1; r >= 0; r--) {
                counting[r] = day[r] <= onDay && !isStruck(r);
            }
        }

        private boolean isStruck(int struck) {
            for (int r = struck + 1; r < number; r++) {
                if (counting[r] && strikes(r, struck)) {
                    return true;
                }
            }
            return false;
        }

        private boolean strikes(int r, int struck) {
            for (int c = r * MOST_CLAUSES; c < r * MOST_CLAUSES + clauses[r]; c++) {
                if (kind[c] == STRIKE && first[c] == struck) {
                    return true;
                }
            }
            return false;
        }
    }

    /** THE TEXT, and its reading: clauses are drafted in the book till the first FAULT. */
    private static final class Reader {
        static final int MOST_BYTES = 200;
        private static final int MISPLACED = 1, BAD_NUMBER = 2, NO_SUCH_RULE = 3, LONG_WORD = 4, TOO_MANY = 5;
        private static final int MOST_FIGURES = 4, GREATEST_NUMBER = 9999;
        // Each word of these lists ends with a blank.
        private static final String KEYWORDS = "let take name strike ";
        private static final String NAMES = "water skeins part looks fee ";
        private static final String WAYS = "mean least middle ";
        private static final String TO = "to ";
        private static final int[] LEAST_OF_NAME = {0, 1, 0, 1, 0};
        private static final int[] MOST_OF_NAME = {300, 9, 200, 2, 999};

        private final Book book;
        private final byte[] text = new byte[MOST_BYTES];
        int length = 0;
        int faultByte = NONE;
        private int faultKind = 0;
        private int at = 0;

        Reader(Book book) {
            this.book = book;
        }

        int take(int n, long bytes) {
            for (int k = n - 1; k >= 0; k--) {
                text[length] = (byte) (bytes >>> (8 * k));
                length++;
            }
            return length;
        }

        /** Reads THE TEXT and empties it; the number of its FAULT, 0 for none. */
        int read() {
            at = 0;
            faultKind = 0;
            faultByte = NONE;
            book.startDraft();
            boolean more = skipBlanks();
            for (int clause = 0; more && clause <= Book.MOST_CLAUSES; clause++) {
                more = readClause() && skipBlanks();
            }
            length = 0;
            return faultKind;
        }

        private boolean fail(int kind, int place) {
            faultKind = kind;
            faultByte = place;
            return false;
        }

        /** Whether anything stands behind the blanks. */
        private boolean skipBlanks() {
            while (at < length && text[at] == ' ') {
                at++;
            }
            return at < length;
        }

        private boolean readClause() {
            int start = at;
            int keyword = readOneOf(KEYWORDS);
            if (keyword == NONE) {
                return false;
            }
            if (book.drafted >= Book.MOST_CLAUSES) {
                return fail(TOO_MANY, start);
            }
            switch (keyword) {
                case 0:
                    return readLet();
                case 1:
                    return readTake();
                case 2:
                    return readName();
                default:
                    return readStrike();
            }
        }

        private boolean readLet() {
            int name = readOneOf(NAMES);
            if (name == NONE) {
                return false;
            }
            int value = readNumber(LEAST_OF_NAME[name], MOST_OF_NAME[name]);
            if (value == NONE || !readStop()) {
                return false;
            }
            book.draft(name, value, 0);
            return true;
        }

        private boolean readTake() {
            int way = readOneOf(WAYS);
            if (way == NONE || !readStop()) {
                return false;
            }
            book.draft(Book.TAKE, way, 0);
            return true;
        }

        private boolean readName() {
            if (!readWord()) {
                return false;
            }
            int from = readNumber(0, GREATEST_NUMBER);
            if (from == NONE || readOneOf(TO) == NONE) {
                return false;
            }
            int to = readNumber(from + 1, GREATEST_NUMBER);
            if (to == NONE || !readStop()) {
                return false;
            }
            book.draft(Book.NAME, from, to);
            return true;
        }

        private boolean readStrike() {
            skipBlanks();
            int start = at;
            int struck = readNumber(0, GREATEST_NUMBER);
            if (struck == NONE) {
                return false;
            }
            if (struck >= book.number) {
                return fail(NO_SUCH_RULE, start);
            }
            if (!readStop()) {
                return false;
            }
            book.draft(Book.STRIKE, struck, 0);
            return true;
        }

        private boolean readStop() {
            if (!skipBlanks() || text[at] != ';') {
                return fail(MISPLACED, at);
            }
            at++;
            return true;
        }

        private boolean readWord() {
            skipBlanks();
            int end = endOfRun('a', 'z');
            if (end == at) {
                return fail(MISPLACED, at);
            }
            if (end - at > Book.MOST_LETTERS) {
                return fail(LONG_WORD, at);
            }
            book.draftWord(text, at, end);
            at = end;
            return true;
        }

        /** The place of the next word in a list; NONE: it is not there, which is a FAULT. */
        private int readOneOf(String list) {
            skipBlanks();
            int end = endOfRun('a', 'z');
            int place = 0;
            int from = 0;
            for (int k = 0; k < list.length(); k++) {
                if (list.charAt(k) == ' ') {
                    if (isSame(list, from, k, end)) {
                        at = end;
                        return place;
                    }
                    place++;
                    from = k + 1;
                }
            }
            fail(MISPLACED, at);
            return NONE;
        }

        private boolean isSame(String list, int from, int to, int end) {
            if (to - from != end - at) {
                return false;
            }
            for (int k = 0; k < to - from; k++) {
                if (list.charAt(from + k) != text[at + k]) {
                    return false;
                }
            }
            return true;
        }

        /** The next NUMBER; NONE: there is none in these bounds, which is a FAULT. */
        private int readNumber(int least, int most) {
            skipBlanks();
            int start = at;
            int end = endOfRun('0', '9');
            if (end == start) {
                fail(MISPLACED, start);
                return NONE;
            }
            int value = 0;
            for (int k = start; k < end && k < start + MOST_FIGURES; k++) {
                value = 10 * value + (text[k] - '0');
            }
            if (end - start > MOST_FIGURES || !within(value, least, most)) {
                fail(BAD_NUMBER, start);
                return NONE;
            }
            at = end;
            return value;
        }

        private int endOfRun(char low, char high) {
            int end = at;
            while (end < length && text[end] >= low && text[end] <= high) {
                end++;
            }
            return end;
        }
    }

    /** THE STATE of a BALE, and the LOOKS by whose RATIOS it is SETTLED. */
    private static final class Judge {
        static final int WAITING = 0, SETTLED = 1, PARTED = 2;

        private final Skeins skeins;
        private final Book book;
        final Piles piles = new Piles();
        // A BALE is SETTLED by the half of these two LOOKS together; both are the same, if one alone tells.
        private int one = 0;
        private int other = 0;

        Judge(Skeins skeins, Book book) {
            this.skeins = skeins;
            this.book = book;
        }

        /** Piles up what counts on a DAY, LOOK by LOOK. */
        void gather(int b, int day) {
            piles.clear();
            for (int s = 0; s < skeins.number; s++) {
                if (skeins.get(s, Skeins.BALE) == b && skeins.counts(s, day)) {
                    piles.put(skeins.get(s, Skeins.LOOK), skeins.get(s, Skeins.RAW), skeins.get(s, Skeins.DRY));
                }
            }
        }

        int weighUp(int b, int day) {
            gather(b, day);
            int full = book.holding(Book.SKEINS, day);
            if (piles.skeins[0] < full) {
                return WAITING;
            }
            if (book.holding(Book.LOOKS, day) == 1) {
                return settle(0, 0);
            }
            if (piles.skeins[1] < full) {
                return WAITING;
            }
            int way = book.holding(Book.TAKE, day);
            if (!piles.differ(0, 1, book.holding(Book.PART, day))) {
                return settleByTwo(way);
            }
            return piles.skeins[2] < full ? PARTED : settleByThree(way);
        }

        private int settle(int by, int and) {
            one = by;
            other = and;
            return SETTLED;
        }

        private int settleByTwo(int way) {
            if (way != Book.LEAST) {
                return settle(0, 1);
            }
            int lesser = lesserOf(0, 1);
            return settle(lesser, lesser);
        }

        private int settleByThree(int way) {
            if (way == Book.LEAST) {
                int least = lesserOf(lesserOf(0, 1), 2);
                return settle(least, least);
            }
            if (way == Book.MIDDLE) {
                int middle = middleLook();
                return settle(middle, middle);
            }
            return settleByNearest();
        }

        private int settleByNearest() {
            long apart01 = Math.abs(piles.level(0) - piles.level(1));
            long apart02 = Math.abs(piles.level(0) - piles.level(2));
            long apart12 = Math.abs(piles.level(1) - piles.level(2));
            if (apart01 <= apart02 && apart01 <= apart12) {
                return settle(0, 1);
            }
            return apart02 <= apart12 ? settle(0, 2) : settle(1, 2);
        }

        private int lesserOf(int p, int q) {
            return piles.dry[q] * piles.raw[p] < piles.dry[p] * piles.raw[q] ? q : p;
        }

        private int middleLook() {
            int lesser = lesserOf(0, 1);
            int greater = 1 - lesser;
            // LOOK 2 lies below both, above both, or between them.
            if (lesserOf(lesser, 2) == 2) {
                return lesser;
            }
            return lesserOf(greater, 2) == 2 ? 2 : greater;
        }

        /** The RATIO of a BALE that is SETTLED, not in least terms. */
        long upper() {
            return piles.dry[one] * piles.raw[other] + piles.dry[other] * piles.raw[one];
        }

        long lower() {
            return 2 * piles.raw[one] * piles.raw[other];
        }
    }

    /** What speaks against a BALE's LOOKS as all is NOW: CAUSES, ODD pairs, and how many SKEINS are NEEDED. */
    private static final class Doubts {
        // Where a row of SKEINS would have its own number: to leave out that one alone.
        private static final int ITSELF = 9;
        private static final int HANDS_FROM = 10, SKEINS_FROM = 100;

        private final Skeins skeins;
        private final Piles piles = new Piles();
        private final int[] first = new int[Skeins.MOST_OF_LOOK];
        private int bale = 0;
        private int day = 0;
        private int part = 0;
        private int ways = 0;
        private int far = 0;

        Doubts(Skeins skeins) {
            this.skeins = skeins;
        }

        void lookAt(int b, int onDay, int bound) {
            bale = b;
            day = onDay;
            part = bound;
        }

        boolean isParted() {
            gatherWithout(ITSELF, NONE);
            return bothLeft() && piles.differ(0, 1, part);
        }

        private boolean bothLeft() {
            return piles.skeins[0] > 0 && piles.skeins[1] > 0;
        }

        /** Piles up LOOKS 0 and 1 but for those SKEINS of which something is as told: how many these are. */
        private int gatherWithout(int what, int value) {
            piles.clear();
            int out = 0;
            for (int s = 0; s < skeins.number; s++) {
                if (!isInDoubt(s)) {
                    continue;
                }
                int own = what == ITSELF ? s : skeins.get(s, what);
                if (own == value) {
                    out++;
                } else {
                    heap(skeins.get(s, Skeins.LOOK), s);
                }
            }
            return out;
        }

        private boolean isInDoubt(int s) {
            return (skeins.isOf(s, bale, 0) || skeins.isOf(s, bale, 1)) && skeins.counts(s, day);
        }

        private void heap(int p, int s) {
            piles.put(p, skeins.get(s, Skeins.RAW), skeins.get(s, Skeins.DRY));
        }

        /** The i-th CAUSE, or how many there are for NONE. */
        int culprit(int i) {
            int found = 0;
            for (int code = 0; code < SKEINS_FROM + skeins.number; code++) {
                if (isSuspect(code) && agreeWithout(code)) {
                    if (found == i) {
                        return code;
                    }
                    found++;
                }
            }
            return i == NONE ? found : NONE;
        }

        private boolean isSuspect(int code) {
            if (code < SKEINS_FROM) {
                return within(code, 0, 3) || within(code, HANDS_FROM, HANDS_FROM + 7);
            }
            return isInDoubt(code - SKEINS_FROM);
        }

        private boolean agreeWithout(int code) {
            int out;
            int fewest = 2;
            if (code < HANDS_FROM) {
                out = gatherWithout(Skeins.OVEN, code);
            } else if (code < SKEINS_FROM) {
                out = gatherWithout(Skeins.HAND, code - HANDS_FROM);
            } else {
                out = gatherWithout(ITSELF, code - SKEINS_FROM);
                fewest = 1;
            }
            return out >= fewest && bothLeft() && !piles.differ(0, 1, part);
        }

        int oddPairs(int look) {
            int n = listLook(look);
            int found = 0;
            for (int i = 0; i < n; i++) {
                for (int j = i + 1; j < n; j++) {
                    piles.clear();
                    heap(0, first[i]);
                    heap(1, first[j]);
                    if (piles.differ(0, 1, part)) {
                        found++;
                    }
                }
            }
            return found;
        }

        /** Lists the SKEINS of a LOOK that count, by numbers: how many. */
        private int listLook(int look) {
            int n = 0;
            for (int s = 0; s < skeins.number && n < first.length; s++) {
                if (skeins.isOf(s, bale, look) && skeins.counts(s, day)) {
                    first[n] = s;
                    n++;
                }
            }
            return n;
        }

        int fewest(int risk) {
            int n = listLook(0);
            piles.clear();
            for (int k = 0; k < n; k++) {
                heap(0, first[k]);
            }
            for (int size = 2; size <= n; size++) {
                ways = 0;
                far = 0;
                takeSome(size, 0, n);
                if (100 * far <= risk * ways) {
                    return size;
                }
            }
            return NONE;
        }

        /** Takes so many more, from the k-th of n SKEINS on, into pile 1: all ways, and those far from pile 0. */
        private void takeSome(int more, int k, int n) {
            if (more <= 0) {
                ways++;
                if (piles.differ(0, 1, part)) {
                    far++;
                }
                return;
            }
            for (int next = k; next <= n - more; next++) {
                int s = first[next];
                heap(1, s);
                takeSome(more - 1, next + 1, n);
                piles.remove(1, skeins.get(s, Skeins.RAW), skeins.get(s, Skeins.DRY));
            }
        }
    }

    /** LOADS for the OVENS, and THE ORDER in which the last is done earliest. */
    private static final class Ovens {
        static final int MOST = 8, MOST_OVENS = 3;
        private static final int NEVER = 1000000;

        private final int[] minutes = new int[MOST];
        private final int[] tried = new int[MOST];
        // When each OVEN is done; all 0 again when everything was tried.
        private final int[] ends = new int[MOST_OVENS];
        final int[] best = new int[MOST];
        int number = 0;
        int bestEnd = 0;
        // For how many OVENS the best was found; 0: LOADS have changed since.
        private int arrangedFor = 0;

        int bring(int m) {
            minutes[number] = m;
            number++;
            arrangedFor = 0;
            return number;
        }

        int clear() {
            int before = number;
            number = 0;
            arrangedFor = 0;
            return before;
        }

        void arrange(int m) {
            if (m == arrangedFor) {
                return;
            }
            bestEnd = NEVER;
            place(0, m, 0);
            arrangedFor = m;
        }

        /** Tries all OVENS for a LOAD and those behind it, the lesser first, so that of like ends the first stays. */
        private void place(int load, int m, int end) {
            if (end >= bestEnd) {
                return;
            }
            if (load >= number) {
                bestEnd = end;
                System.arraycopy(tried, 0, best, 0, number);
                return;
            }
            for (int o = 0; o < m; o++) {
                tried[load] = o;
                ends[o] += minutes[load];
                place(load + 1, m, Math.max(end, ends[o]));
                ends[o] -= minutes[load];
            }
        }
    }

    /** Bales that two houses had, each with its DIFFERENCES, and those left out where they QUARREL. */
    private static final class Neighbours {
        static final int MOST = 8;
        private static final int FAR = 1000000;

        private final int[] low = new int[MOST];
        private final int[] high = new int[MOST];
        int number = 0;

        int compare(int least, int greatest) {
            low[number] = least;
            high[number] = greatest;
            number++;
            return number;
        }

        int leastWithout(int out) {
            int least = -FAR;
            for (int k = 0; k < number; k++) {
                if ((out >> k & 1) == 0) {
                    least = Math.max(least, low[k]);
                }
            }
            return least;
        }

        int greatestWithout(int out) {
            int greatest = FAR;
            for (int k = 0; k < number; k++) {
                if ((out >> k & 1) == 0) {
                    greatest = Math.min(greatest, high[k]);
                }
            }
            return greatest;
        }

        /** The SET of the fewest bales without which there is a DIFFERENCE; of like ones the least. */
        int leastLeftOut() {
            int best = (1 << number) - 1;
            for (int out = best - 1; out >= 0; out--) {
                boolean fewer = Integer.bitCount(out) <= Integer.bitCount(best);
                if (fewer && leastWithout(out) <= greatestWithout(out)) {
                    best = out;
                }
            }
            return best;
        }
    }

    /** CERTIFICATES and BILLS; a PAPER hangs on one that was there before it. */
    private static final class Papers {
        static final int CERTIFICATE = 0, BILL = 1;
        private static final int MOST = 40;

        final int[] kind = new int[MOST];
        final int[] bale = new int[MOST];
        final int[] amount = new int[MOST];
        final int[] on = new int[MOST];
        final int[] day = new int[MOST];
        final int[] undone = new int[MOST];
        private final boolean[] falls = new boolean[MOST];
        int number = 0;

        boolean has(int p) {
            return p >= 0 && p < number;
        }

        boolean hasRoom(int more) {
            return number + more <= MOST;
        }

        boolean isCertificate(int p) {
            return kind[p] == CERTIFICATE;
        }

        boolean isUndone(int p) {
            return undone[p] != NONE;
        }

        int write(int ofKind, int b, int worth, int hangsOn, int onDay) {
            int p = number;
            kind[p] = ofKind;
            bale[p] = b;
            amount[p] = worth;
            on[p] = hangsOn;
            day[p] = onDay;
            undone[p] = NONE;
            number++;
            return p;
        }

        boolean certified(int b) {
            for (int p = 0; p < number; p++) {
                if (isCertificate(p) && bale[p] == b && !isUndone(p)) {
                    return true;
                }
            }
            return false;
        }

        boolean isBilled(int paper) {
            for (int p = 0; p < number; p++) {
                if (kind[p] == BILL && on[p] == paper && !isUndone(p)) {
                    return true;
                }
            }
            return false;
        }

        int hanging(int paper) {
            int found = 0;
            for (int p = 0; p < number; p++) {
                if (on[p] == paper) {
                    found++;
                }
            }
            return found;
        }

        /** Undoes a PAPER and all that hangs on it; these have higher numbers, so one way through finds them. */
        int tear(int paper, int onDay) {
            int found = 0;
            for (int p = 0; p < number; p++) {
                falls[p] = p == paper || (has(on[p]) && falls[on[p]]);
                if (falls[p] && !isUndone(p)) {
                    undone[p] = onDay;
                    found++;
                }
            }
            return found;
        }

        long standing(int onDay, int ofKind) {
            long sum = 0;
            for (int p = 0; p < number; p++) {
                boolean stands = day[p] <= onDay && (undone[p] == NONE || undone[p] > onDay);
                if (kind[p] == ofKind && stands) {
                    sum += amount[p];
                }
            }
            return sum;
        }
    }
}
