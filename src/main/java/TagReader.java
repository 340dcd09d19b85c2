/** A reader of tags that answer at once; README.md says how it is used. */
public final class TagReader {
    public static final int BAD = -1, STATE = -2, FULL = -3, NONE = -4, SPENT = -6;

    private static final int LEAST_BITS = 2;
    private static final int MOST_BITS = 12;
    private static final int MOST_TAGS = 16;
    private static final int MOST_STRENGTH = 99;
    private static final int MOST_QUESTIONS = 2000;
    private static final int KEPT_QUESTIONS = 64;
    private static final int HEARING = 1;
    private static final int MOST_SLOTS = 64;
    private static final int MOST_LOOKED_AT = 30;
    private static final int TRIED_SEEDS = 100;
    private static final int TAPE_BYTES = 200;
    private static final int ODDS_BOUND = 12;
    private static final int GUESS_SLOTS = 8;
    private static final int BEST_TAGS = 5;
    private static final int SHEETS = 4;
    private static final int LANES = 3;
    private static final int MOST_CELLS = 40;
    private static final int WITH_FAULT = -10;
    private static final int WITH_TAG = -20;

    private static final int NULL = 1;
    private static final int INDEX = 2;
    private static final int CAST = 3;
    private static final int SIZE = 4;

    private static final int RULE_FRAME = 0;
    private static final int RULE_LEAST = 1;
    private static final int RULE_MOST = 2;
    private static final int RULE_GROW = 3;
    private static final int RULE_SHRINK = 5;
    private static final int RULE_ABOVE = 7;
    private static final int RULE_ROUNDS = 8;
    private static final int[] RULES_AT_FIRST = {8, 1, 64, 60, 200, 60, 50, 0, 20};
    private static final int[] RULES_LEAST = {1, 1, 1, 1, 100, 1, 10, 0, 1};
    private static final int[] RULES_MOST = {64, 64, 64, 100, 400, 100, 100, 99, 40};

    private static final int LINES = 7;
    private static final int[] LINE_RULE = {0, 1, 2, 3, 5, 7, 8};
    private static final int[] LINE_NUMBERS = {1, 1, 1, 2, 2, 1, 1};

    private int n;
    private int blocker;
    private int blockerBits;
    private int tornBy;
    private final Tags tags;
    private final Crowd crowd;
    private Tree latest;
    private Tree spare;
    private final int[] splitRow;
    private final Tape tape;
    private final Text text;
    private final Frame latestFrame;
    private final Series series;
    private final Odds odds;
    private final Known known;
    private final Sheet[] sheets;

    public TagReader() {
        n = 6;
        blocker = 0;
        blockerBits = -1;
        tornBy = 0;
        tags = new Tags();
        crowd = new Crowd();
        latest = new Tree();
        spare = new Tree();
        splitRow = new int[MOST_TAGS + 1];
        tape = new Tape();
        text = new Text();
        latestFrame = new Frame();
        series = new Series();
        odds = new Odds();
        known = new Known();
        sheets = new Sheet[SHEETS];
        for (int k = 0; k < SHEETS; k++) {
            sheets[k] = new Sheet();
        }
    }

    // ---- tags

    public int bits(int v) {
        if (!within(v, LEAST_BITS, MOST_BITS)) {
            return BAD;
        }
        int was = n;
        n = v;
        tags.size = 0;
        known.size = 0;
        blockerBits = -1;
        latest.clear();
        return was;
    }

    public int tag(int number, int strength) {
        int refusal = refusalOfTag(number, strength);
        if (refusal != 0) {
            return refusal;
        }
        tags.add(number, strength);
        return tags.size - 1;
    }

    public int of(int t, int what) {
        if (!tags.has(t)) {
            return BAD;
        }
        switch (what) {
            case 0:
                return tags.numbers[t];
            case 1:
                return tags.strengths[t];
            case 2:
                return tags.silent[t] ? 1 : 0;
            default:
                return BAD;
        }
    }

    public int hush(int t, boolean is) {
        if (!tags.has(t)) {
            return BAD;
        }
        int was = tags.silent[t] ? 1 : 0;
        tags.silent[t] = is;
        return was;
    }

    public int wake() {
        int were = tags.silentOnes();
        tags.silenceAll(false);
        return were;
    }

    public int block(int beginning, int b) {
        if (!within(b, -1, n)) {
            return BAD;
        }
        blockerBits = b;
        if (b < 0) {
            return 0;
        }
        blocker = beginning & lowBits(b);
        return 1 << (n - b);
    }

    // ---- questions

    public int ask(int k, int beginning, int what) {
        if (!within(k, 0, n) || !within(beginning, 0, lowBits(k)) || !within(what, 0, 2)) {
            return BAD;
        }
        gatherTags();
        crowd.listen(k, beginning);
        switch (what) {
            case 0:
                return crowd.tagsHeard + crowd.seemingHeard;
            case 1:
                return crowd.ones & ~crowd.zeros;
            default:
                return crowd.clashes();
        }
    }

    public int tree(int way) {
        if (!within(way, 0, 1)) {
            return BAD;
        }
        gatherTags();
        if (!spare.walk(crowd, way)) {
            return SPENT;
        }
        Tree old = latest;
        latest = spare;
        spare = old;
        // A tree that comes to its end has read every TAG that answered.
        tags.silenceAll(true);
        return latest.counts[Tree.QUESTIONS];
    }

    public int grown(int what) {
        if (!within(what, 0, 4)) {
            return BAD;
        }
        return latest.wasWalked() ? latest.counts[what] : STATE;
    }

    public int heard(int i, int what) {
        if (!within(i, 0, latest.kept - 1) || !within(what, 0, 1)) {
            return BAD;
        }
        return what == 0 ? latest.askedBits[i] : latest.askedBeginnings[i];
    }

    public int learns(int number) {
        if (!isNumber(number)) {
            return BAD;
        }
        return latest.wasWalked() ? latest.longestOf(number, n) : STATE;
    }

    public int would(int way, int v) {
        if (!within(way, 0, 1) || n > 5) {
            return BAD;
        }
        // For n 5 every int is a set; a shift by 32 would not move at all.
        if (n < 5 && v >>> (1 << n) != 0) {
            return BAD;
        }
        crowd.clear(n);
        for (int number = 0; number < 1 << n; number++) {
            if ((v >>> number & 1) != 0) {
                crowd.add(number);
            }
        }
        return spare.walk(crowd, way) ? spare.counts[Tree.QUESTIONS] : BAD;
    }

    public int most(int way, int m, int what) {
        if (!within(way, 0, 1) || !within(what, 0, 1) || n > 4 || !within(m, 0, 1 << n)) {
            return BAD;
        }
        if (way == HEARING) {
            // Each clash leads to two questions that somebody answers, so all trees of m are alike.
            return m == 0 ? 1 : 2 * m - 1;
        }
        return outermostBlind(m, what == 0);
    }

    // ---- rules, frames

    public int feed(long v) {
        if (tape.length + 8 > TAPE_BYTES) {
            return FULL;
        }
        tape.add(v);
        return tape.length;
    }

    public int end(int n) {
        if (!within(n, 0, tape.length)) {
            return BAD;
        }
        int had = tape.length;
        tape.length = n;
        return had;
    }

    public int rules() {
        int answer = text.parse(tape);
        tape.length = 0;
        return answer;
    }

    public int fault() {
        return text.faultMet;
    }

    public int rule(int what) {
        return within(what, 0, text.held.length - 1) ? text.held[what] : BAD;
    }

    public int slot(int number, int f, int seed) {
        if (!isNumber(number) || !within(f, 1, MOST_SLOTS)) {
            return BAD;
        }
        return slotOf(number, f, seed);
    }

    public int frame(int f, int seed) {
        if (!within(f, 1, MOST_SLOTS)) {
            return BAD;
        }
        return latestFrame.hold(tags, f, seed, text.held[RULE_ABOVE]);
    }

    public int shown(int what) {
        if (!within(what, 0, 4)) {
            return BAD;
        }
        return latestFrame.wasHeld() ? latestFrame.counts[what] : STATE;
    }

    public int all(int seed) {
        boolean allRead = series.run(latestFrame, tags, text.held, seed);
        return allRead ? series.counts[Series.FRAMES] : SPENT;
    }

    public int went(int what) {
        if (!within(what, 0, 3)) {
            return BAD;
        }
        return series.wasRun() ? series.counts[what] : STATE;
    }

    // ---- odds

    public long alone(int f, int m, int a, int what) {
        if (!within(f, 1, ODDS_BOUND) || !within(m, 1, ODDS_BOUND)
                || !within(a, 0, ODDS_BOUND) || !within(what, 0, 1)) {
            return BAD;
        }
        return partOfFraction(odds.waysWithAlone(f, m, a), power(f, m), what);
    }

    public long mean(int f, int m, int what) {
        if (!within(f, 1, ODDS_BOUND) || !within(m, 1, ODDS_BOUND) || !within(what, 0, 1)) {
            return BAD;
        }
        return partOfFraction(m * power(f - 1, m - 1), power(f, m - 1), what);
    }

    public int best(int m) {
        if (!within(m, 1, BEST_TAGS)) {
            return BAD;
        }
        int best = 1;
        for (int f = 2; f <= MOST_SLOTS; f++) {
            // MEAN by f is m times (f - 1)^(m - 1) by f^m; the m is the same for all f.
            long here = power(f - 1, m - 1) * power(best, m);
            long there = power(best - 1, m - 1) * power(f, m);
            if (here > there) {
                best = f;
            }
        }
        return best;
    }

    public int guess(int e, int a, int c) {
        return isShow(e, a, c) ? odds.likeliest(e, a, c) : BAD;
    }

    public long ways(int m, int e, int a, int c) {
        if (!within(m, 0, MOST_TAGS) || !isShow(e, a, c)) {
            return BAD;
        }
        odds.fillRow(c, m, false);
        return odds.waysToShow(m, e, a, c);
    }

    // ---- missing ones

    public int know(int number) {
        if (!isNumber(number) || known.has(number)) {
            return BAD;
        }
        if (known.size >= MOST_TAGS) {
            return FULL;
        }
        known.add(number);
        return known.size;
    }

    public int forget() {
        int were = known.size;
        known.size = 0;
        return were;
    }

    public int missing(int f, int seed, int slots) {
        if (!within(f, 1, MOST_LOOKED_AT) || !within(slots, 0, lowBits(f))) {
            return BAD;
        }
        return known.notIn(slots, f, seed);
    }

    public int seen(int f, int seed) {
        return within(f, 1, MOST_SLOTS) ? known.aloneOnes(f, seed) : BAD;
    }

    public int seed(int f, int s) {
        if (!within(f, 1, MOST_SLOTS)) {
            return BAD;
        }
        int best = s;
        int bestSeen = -1;
        for (int i = 0; i < TRIED_SEEDS; i++) {
            int seen = Integer.bitCount(known.aloneOnes(f, s + i));
            if (seen > bestSeen) {
                best = s + i;
                bestSeen = seen;
            }
        }
        return best;
    }

    // ---- sheets

    public int sheet(int k, int lane, int n) {
        if (!within(k, 0, SHEETS - 1) || !within(lane, 0, LANES - 1) || n > MOST_CELLS) {
            return BAD;
        }
        if (n < 0) {
            return WITH_FAULT - SIZE;
        }
        sheets[k].renew(lane, n);
        return 1;
    }

    public int lay(int k, int i, int v) {
        if (!within(k, 0, SHEETS - 1)) {
            return BAD;
        }
        int met = sheets[k].faultOfCell(i);
        if (met != 0) {
            return WITH_FAULT - met;
        }
        sheets[k].put(i, v);
        return 1;
    }

    public int read(int k, int lane, int f, int m) {
        if (!within(k, 0, SHEETS - 1) || !within(lane, 0, LANES - 1) || !within(m, 0, MOST_TAGS)) {
            return BAD;
        }
        Sheet from = sheets[k];
        int sizeBefore = tags.size;
        int met = 0;
        for (int i = 0; i < m && met == 0; i++) {
            met = from.faultOfPair(lane, f + 2 * i);
            if (met == 0) {
                int refusal = takeTag(from, f + 2 * i);
                if (refusal != 0) {
                    tags.size = sizeBefore;
                    return refusal == BAD ? WITH_TAG - i : refusal;
                }
            }
        }
        tornBy = met;
        return tags.size - sizeBefore;
    }

    public int torn() {
        return tornBy;
    }

    public int count(int what) {
        switch (what) {
            case 0:
                return n;
            case 1:
                return tags.size;
            case 2:
                return tags.silentOnes();
            case 3:
                return known.size;
            case 4:
                return latest.kept;
            case 5:
                return blockerBits < 0 ? NONE : blockerBits;
            case 6:
                return tape.length;
            case 7:
                return sheets[0].size < 0 ? NONE : sheets[0].size;
            default:
                return BAD;
        }
    }

    // ---- what the calls above share

    private static boolean within(int v, int least, int most) {
        return v >= least && v <= most;
    }

    /** As many ones as told, 0 to 30. */
    private static int lowBits(int howMany) {
        return (1 << howMany) - 1;
    }

    private boolean isNumber(int v) {
        return within(v, 0, lowBits(n));
    }

    private int refusalOfTag(int number, int strength) {
        if (!isNumber(number) || !within(strength, 1, MOST_STRENGTH) || tags.hasNumber(number)) {
            return BAD;
        }
        return tags.size >= MOST_TAGS ? FULL : 0;
    }

    private int takeTag(Sheet from, int i) {
        if (from.faultOfCell(i) != 0 || from.faultOfCell(i + 1) != 0) {
            return BAD;
        }
        int number = from.cells[i];
        int strength = from.cells[i + 1];
        int refusal = refusalOfTag(number, strength);
        if (refusal == 0) {
            tags.add(number, strength);
        }
        return refusal;
    }

    private void gatherTags() {
        crowd.clear(n);
        for (int t = 0; t < tags.size; t++) {
            if (!tags.silent[t]) {
                crowd.add(tags.numbers[t]);
            }
        }
        crowd.blockerBits = blockerBits;
        crowd.blocker = blocker;
    }

    /** The most (or fewest) questions that a BLIND tree can ask for m NUMBERS of n bits. */
    private int outermostBlind(int m, boolean greatest) {
        for (int i = 0; i <= m; i++) {
            splitRow[i] = 1;
        }
        for (int behind = 1; behind <= n; behind++) {
            int half = 1 << (behind - 1);
            // From above downwards, since each entry needs those of one bit less at and below it.
            for (int i = Math.min(m, 2 * half); i >= 2; i--) {
                splitRow[i] = 1 + outermostSplit(i, half, greatest);
            }
        }
        return splitRow[m];
    }

    private int outermostSplit(int m, int half, boolean greatest) {
        int found = -1;
        for (int zeros = Math.max(0, m - half); zeros <= Math.min(m, half); zeros++) {
            int sum = splitRow[zeros] + splitRow[m - zeros];
            if (found < 0 || (greatest ? sum > found : sum < found)) {
                found = sum;
            }
        }
        return found;
    }

    private static int slotOf(int number, int f, int seed) {
        if (f < 1) {
            return 0;
        }
        int x = seed + 40503 * number;
        x = x * 1103515245 + 12345;
        return (x >>> 16 & 0x7fff) % f;
    }

    private static boolean isShow(int e, int a, int c) {
        // Each is bounded ahead of the sum, which could wrap otherwise.
        return within(e, 0, GUESS_SLOTS) && within(a, 0, GUESS_SLOTS) && within(c, 0, GUESS_SLOTS)
                && within(e + a + c, 1, GUESS_SLOTS);
    }

    private static long power(long base, int exponent) {
        long product = 1;
        for (int i = 0; i < exponent; i++) {
            product *= base;
        }
        return product;
    }

    private static long partOfFraction(long numerator, long denominator, int what) {
        long divisor = greatestCommonDivisor(numerator, denominator);
        if (divisor < 1) {
            return 0;
        }
        return (what == 0 ? numerator : denominator) / divisor;
    }

    private static long greatestCommonDivisor(long a, long b) {
        long greater = a;
        long smaller = b;
        // Two longs need fewer than a hundred divisions.
        for (int i = 0; i < 100 && smaller != 0; i++) {
            long rest = greater % smaller;
            greater = smaller;
            smaller = rest;
        }
        return greater;
    }

    /** The TAGS, as they came. */
    private static final class Tags {
        final int[] numbers = new int[MOST_TAGS];
        final int[] strengths = new int[MOST_TAGS];
        final boolean[] silent = new boolean[MOST_TAGS];
        int size = 0;

        boolean has(int t) {
            return within(t, 0, size - 1);
        }

        boolean hasNumber(int number) {
            for (int t = 0; t < size; t++) {
                if (numbers[t] == number) {
                    return true;
                }
            }
            return false;
        }

        void add(int number, int strength) {
            if (size >= MOST_TAGS) {
                return;
            }
            numbers[size] = number;
            strengths[size] = strength;
            silent[size] = false;
            size++;
        }

        int silentOnes() {
            int found = 0;
            for (int t = 0; t < size; t++) {
                if (silent[t]) {
                    found++;
                }
            }
            return found;
        }

        void silenceAll(boolean is) {
            for (int t = 0; t < size; t++) {
                silent[t] = is;
            }
        }
    }

    /** All that answer questions together, and what is heard of them. */
    private static final class Crowd {
        // would() asks for sets of up to 32 NUMBERS.
        final int[] numbers = new int[32];
        int size = 0;
        int n = 0;
        int blockerBits = -1;
        int blocker = 0;
        int tagsHeard = 0;
        int seemingHeard = 0;
        int ones = 0;
        int zeros = 0;

        void clear(int bitsOfNumbers) {
            n = bitsOfNumbers;
            size = 0;
            blockerBits = -1;
        }

        void add(int number) {
            if (size < numbers.length) {
                numbers[size] = number;
                size++;
            }
        }

        void listen(int k, int beginning) {
            int behind = n - k;
            int all = lowBits(behind);
            tagsHeard = 0;
            ones = 0;
            zeros = 0;
            for (int i = 0; i < size; i++) {
                if (numbers[i] >> behind == beginning) {
                    tagsHeard++;
                    ones |= numbers[i] & all;
                    zeros |= ~numbers[i] & all;
                }
            }
            listenToBlocker(k, beginning);
        }

        private void listenToBlocker(int k, int beginning) {
            seemingHeard = 0;
            int common = Math.min(k, blockerBits);
            if (blockerBits < 0 || beginning >> (k - common) != blocker >> (blockerBits - common)) {
                return;
            }
            int all = lowBits(n - k);
            int free = n - Math.max(k, blockerBits);
            int fixed = blocker << (n - blockerBits) & all;
            seemingHeard = 1 << free;
            ones |= fixed | lowBits(free);
            zeros |= ~fixed & all;
        }

        int clashes() {
            return ones & zeros;
        }
    }

    /** The questions of a tree, and what came of them. */
    private static final class Tree {
        static final int QUESTIONS = 0;
        static final int READ = 1;
        static final int BLOCKED = 2;
        static final int UNANSWERED = 3;
        static final int CLASHED = 4;

        final int[] counts = new int[5];
        final int[] askedBits = new int[KEPT_QUESTIONS];
        final int[] askedBeginnings = new int[KEPT_QUESTIONS];
        int kept = 0;
        // At each of n levels one question at most waits beside the one that is asked next.
        private final int[] waitingBits = new int[MOST_BITS + 2];
        private final int[] waitingBeginnings = new int[MOST_BITS + 2];
        private int waiting = 0;

        void clear() {
            for (int i = 0; i < counts.length; i++) {
                counts[i] = 0;
            }
            kept = 0;
            waiting = 0;
        }

        boolean wasWalked() {
            return counts[QUESTIONS] > 0;
        }

        /** Whether the tree came to its end with no more questions than may be asked. */
        boolean walk(Crowd crowd, int way) {
            clear();
            push(0, 0);
            for (int i = 0; i < MOST_QUESTIONS && waiting > 0; i++) {
                waiting--;
                question(crowd, way, waitingBits[waiting], waitingBeginnings[waiting]);
            }
            return waiting == 0;
        }

        private void push(int k, int beginning) {
            if (waiting < waitingBits.length) {
                waitingBits[waiting] = k;
                waitingBeginnings[waiting] = beginning;
                waiting++;
            }
        }

        private void question(Crowd crowd, int way, int k, int beginning) {
            keep(k, beginning);
            counts[QUESTIONS]++;
            crowd.listen(k, beginning);
            if (crowd.clashes() != 0) {
                counts[CLASHED]++;
                goOn(crowd, way, k, beginning);
            } else if (crowd.tagsHeard > 0) {
                counts[READ]++;
            } else if (crowd.seemingHeard > 0) {
                counts[BLOCKED]++;
            } else {
                counts[UNANSWERED]++;
            }
        }

        private void keep(int k, int beginning) {
            if (kept < KEPT_QUESTIONS) {
                askedBits[kept] = k;
                askedBeginnings[kept] = beginning;
                kept++;
            }
        }

        private void goOn(Crowd crowd, int way, int k, int beginning) {
            int sure = way == HEARING ? bitsAheadOfClash(crowd, k) : 0;
            int longer = beginning << sure | crowd.ones >> (crowd.n - k - sure);
            push(k + sure + 1, longer << 1 | 1);
            push(k + sure + 1, longer << 1);
        }

        private static int bitsAheadOfClash(Crowd crowd, int k) {
            int clashes = crowd.clashes();
            int ahead = 0;
            for (int bit = crowd.n - k - 1; bit >= 0 && (clashes >> bit & 1) == 0; bit--) {
                ahead++;
            }
            return ahead;
        }

        int longestOf(int number, int n) {
            int longest = 0;
            for (int i = 0; i < kept; i++) {
                int k = askedBits[i];
                if (k > longest && number >> (n - k) == askedBeginnings[i]) {
                    longest = k;
                }
            }
            return longest;
        }
    }

    /** THE TAPE, and the TOKEN that was read of it last. */
    private static final class Tape {
        static final int NO_TOKEN = 0;
        static final int NAME = 1;
        static final int NUMBER = 2;
        static final int SEMICOLON = 3;
        static final int THE_END = 4;
        private static final int MOST_FIGURES = 4;

        private final byte[] bytes = new byte[TAPE_BYTES];
        int length = 0;
        int kind = NO_TOKEN;
        int start = 0;
        int value = 0;
        private int place = 0;

        void add(long v) {
            for (int shift = 56; shift >= 0 && length < TAPE_BYTES; shift -= 8) {
                bytes[length] = (byte) (v >> shift);
                length++;
            }
        }

        void rewind() {
            place = 0;
        }

        private int byteAt(int i) {
            return i >= 0 && i < length && i < TAPE_BYTES ? bytes[i] : 0;
        }

        private boolean isLetterAt(int i) {
            return within(byteAt(i), 'a', 'z');
        }

        private boolean isFigureAt(int i) {
            return within(byteAt(i), '0', '9');
        }

        void readToken() {
            while (place < length && byteAt(place) == ' ') {
                place++;
            }
            start = place;
            if (place >= length) {
                kind = THE_END;
            } else if (isLetterAt(place)) {
                readName();
            } else if (isFigureAt(place)) {
                readNumber();
            } else {
                kind = byteAt(place) == ';' ? SEMICOLON : NO_TOKEN;
                place++;
            }
        }

        private void readName() {
            while (place < length && isLetterAt(place)) {
                place++;
            }
            kind = NO_TOKEN;
            for (int line = 0; line < LINES; line++) {
                if (isSpelled(lineName(line))) {
                    kind = NAME;
                    value = line;
                }
            }
        }

        private boolean isSpelled(String name) {
            boolean same = place - start == name.length();
            for (int i = 0; i < name.length() && same; i++) {
                same = byteAt(start + i) == name.charAt(i);
            }
            return same;
        }

        private void readNumber() {
            value = 0;
            while (place < length && isFigureAt(place)) {
                // Of a NUMBER that is too long the value is not used, so it may wrap.
                value = value * 10 + byteAt(place) - '0';
                place++;
            }
            kind = place - start > MOST_FIGURES ? NO_TOKEN : NUMBER;
        }

        private static String lineName(int line) {
            switch (line) {
                case 0:
                    return "frame";
                case 1:
                    return "least";
                case 2:
                    return "most";
                case 3:
                    return "grow";
                case 4:
                    return "shrink";
                case 5:
                    return "above";
                default:
                    return "rounds";
            }
        }
    }

    /** The RULES that hold, and how a text tells them. */
    private static final class Text {
        private static final int UNREADABLE = 1;
        private static final int MISPLACED = 2;
        private static final int OUT_OF_BOUNDS = 3;
        private static final int TWICE = 4;
        private static final int CROSSED = 5;

        final int[] held = RULES_AT_FIRST.clone();
        int faultMet = 0;
        private final int[] told = RULES_AT_FIRST.clone();
        private final boolean[] named = new boolean[LINES];
        private int faultPlace = 0;
        private int lines = 0;

        /** How many lines were taken; -10 less the place of the FAULT. */
        int parse(Tape tape) {
            startAnew(tape);
            // A line takes more than one byte, so there are never as many lines as bytes.
            for (int i = 0; i < TAPE_BYTES && faultMet == 0 && tape.kind != Tape.THE_END; i++) {
                parseLine(tape);
            }
            if (faultMet == 0 && told[RULE_LEAST] > told[RULE_MOST]) {
                meet(CROSSED, tape.length);
            }
            if (faultMet != 0) {
                return WITH_FAULT - faultPlace;
            }
            System.arraycopy(told, 0, held, 0, held.length);
            return lines;
        }

        private void startAnew(Tape tape) {
            faultMet = 0;
            lines = 0;
            System.arraycopy(RULES_AT_FIRST, 0, told, 0, told.length);
            for (int line = 0; line < LINES; line++) {
                named[line] = false;
            }
            tape.rewind();
            readNext(tape);
        }

        private void parseLine(Tape tape) {
            int line = takeName(tape);
            if (faultMet != 0) {
                return;
            }
            for (int i = 0; i < LINE_NUMBERS[line] && faultMet == 0; i++) {
                takeNumber(tape, LINE_RULE[line] + i);
            }
            if (faultMet == 0) {
                expect(tape, Tape.SEMICOLON);
            }
            if (faultMet == 0) {
                lines++;
                readNext(tape);
            }
        }

        private int takeName(Tape tape) {
            expect(tape, Tape.NAME);
            int line = tape.value;
            if (faultMet != 0 || !within(line, 0, LINES - 1)) {
                return 0;
            }
            if (named[line]) {
                meet(TWICE, tape.start);
                return 0;
            }
            named[line] = true;
            readNext(tape);
            return line;
        }

        private void takeNumber(Tape tape, int rule) {
            expect(tape, Tape.NUMBER);
            if (faultMet != 0 || !within(rule, 0, told.length - 1)) {
                return;
            }
            if (!within(tape.value, RULES_LEAST[rule], RULES_MOST[rule])) {
                meet(OUT_OF_BOUNDS, tape.start);
                return;
            }
            told[rule] = tape.value;
            readNext(tape);
        }

        private void readNext(Tape tape) {
            tape.readToken();
            if (tape.kind == Tape.NO_TOKEN) {
                meet(UNREADABLE, tape.start);
            }
        }

        private void expect(Tape tape, int kind) {
            if (tape.kind != kind) {
                meet(MISPLACED, tape.start);
            }
        }

        private void meet(int which, int place) {
            faultMet = which;
            faultPlace = place;
        }
    }

    /** A FRAME of SLOTS, and what it showed. */
    private static final class Frame {
        static final int SLOTS = 0;
        static final int EMPTY = 1;
        static final int SINGLE = 2;
        static final int CLASHED = 3;
        static final int ABOVE = 4;

        final int[] counts = new int[5];
        private final int[] answered = new int[MOST_SLOTS];
        private final int[] strongest = new int[MOST_SLOTS];
        private final int[] secondStrength = new int[MOST_SLOTS];

        boolean wasHeld() {
            return counts[SLOTS] > 0;
        }

        /** How many TAGS were read; f is 1 to 64. */
        int hold(Tags tags, int f, int seed, int above) {
            if (!within(f, 1, MOST_SLOTS)) {
                return 0;
            }
            clear(f);
            for (int t = 0; t < tags.size; t++) {
                if (!tags.silent[t]) {
                    enter(tags, t, slotOf(tags.numbers[t], f, seed));
                }
            }
            for (int slot = 0; slot < f; slot++) {
                int kind = kindOf(tags, slot, above);
                counts[kind]++;
                if (kind == SINGLE || kind == ABOVE) {
                    tags.silent[strongest[slot]] = true;
                }
            }
            return counts[SINGLE] + counts[ABOVE];
        }

        private void clear(int f) {
            for (int i = 0; i < counts.length; i++) {
                counts[i] = 0;
            }
            counts[SLOTS] = f;
            for (int slot = 0; slot < f; slot++) {
                answered[slot] = 0;
                strongest[slot] = 0;
                secondStrength[slot] = 0;
            }
        }

        private void enter(Tags tags, int t, int slot) {
            int strength = tags.strengths[t];
            if (answered[slot] == 0) {
                strongest[slot] = t;
            } else if (strength > tags.strengths[strongest[slot]]) {
                secondStrength[slot] = tags.strengths[strongest[slot]];
                strongest[slot] = t;
            } else {
                secondStrength[slot] = Math.max(secondStrength[slot], strength);
            }
            answered[slot]++;
        }

        private int kindOf(Tags tags, int slot, int above) {
            if (answered[slot] == 0) {
                return EMPTY;
            }
            if (answered[slot] == 1) {
                return SINGLE;
            }
            int lead = tags.strengths[strongest[slot]] - secondStrength[slot];
            return above > 0 && lead >= above ? ABOVE : CLASHED;
        }
    }

    /** FRAMES one behind another, till all TAGS are read. */
    private static final class Series {
        static final int FRAMES = 0;
        static final int SLOTS = 1;
        static final int READ = 2;
        static final int LAST = 3;

        final int[] counts = new int[4];

        boolean wasRun() {
            return counts[FRAMES] > 0;
        }

        /** Whether a FRAME came in which no SLOT had a TAG. */
        boolean run(Frame frame, Tags tags, int[] rules, int seed) {
            for (int i = 0; i < counts.length; i++) {
                counts[i] = 0;
            }
            int f = bounded(rules[RULE_FRAME], rules);
            boolean allRead = false;
            for (int i = 0; i < rules[RULE_ROUNDS] && !allRead; i++) {
                counts[READ] += frame.hold(tags, f, seed + i, rules[RULE_ABOVE]);
                counts[FRAMES]++;
                counts[SLOTS] += f;
                counts[LAST] = f;
                allRead = frame.counts[Frame.EMPTY] == f;
                f = bounded(next(frame, rules), rules);
            }
            return allRead;
        }

        private static int bounded(int f, int[] rules) {
            return Math.min(Math.max(f, rules[RULE_LEAST]), rules[RULE_MOST]);
        }

        private static int next(Frame frame, int[] rules) {
            int f = frame.counts[Frame.SLOTS];
            int empty = frame.counts[Frame.EMPTY];
            int clashed = frame.counts[Frame.CLASHED];
            if (f > empty && 100 * clashed >= rules[RULE_GROW] * (f - empty)) {
                return f * rules[RULE_GROW + 1] / 100;
            }
            if (100 * empty >= rules[RULE_SHRINK] * f) {
                return f * rules[RULE_SHRINK + 1] / 100;
            }
            return f;
        }
    }

    /** In how many ways TAGS, each one told from the others, lie in SLOTS. */
    private static final class Odds {
        // Entry r: the ways of r TAGS in the SLOTS that the row was filled for.
        private final long[] row = new long[MOST_TAGS + 1];

        /** Ways in which no SLOT has just one TAG, and none is EMPTY, unless it may be. */
        void fillRow(int slots, int tags, boolean mayBeEmpty) {
            for (int r = 0; r <= tags && r < row.length; r++) {
                row[r] = r == 0 ? 1 : 0;
            }
            for (int slot = 0; slot < slots; slot++) {
                // From above downwards, since each entry needs the old ones at and below it.
                for (int r = Math.min(tags, row.length - 1); r >= 0; r--) {
                    row[r] = withOneSlotMore(r, mayBeEmpty);
                }
            }
        }

        private long withOneSlotMore(int r, boolean mayBeEmpty) {
            long sum = mayBeEmpty ? row[r] : 0;
            for (int inside = 2; inside <= r; inside++) {
                sum += choose(r, inside) * row[r - inside];
            }
            return sum;
        }

        private long waysAt(int r) {
            return r >= 0 && r < row.length ? row[r] : 0;
        }

        long waysWithAlone(int f, int m, int a) {
            if (a > f || a > m) {
                return 0;
            }
            fillRow(f - a, m - a, true);
            return choose(f, a) * arranged(m, a) * waysAt(m - a);
        }

        /** The row must be filled for c SLOTS with two or more, and for m or more TAGS. */
        long waysToShow(int m, int e, int a, int c) {
            if (m < a) {
                return 0;
            }
            return choose(e + a + c, e) * choose(a + c, a) * arranged(m, a) * waysAt(m - a);
        }

        int likeliest(int e, int a, int c) {
            fillRow(c, MOST_TAGS, false);
            int best = NONE;
            // The ways for the best m so far, times f for each TAG more: so both are out of f^m.
            long bestWays = 0;
            for (int m = 0; m <= MOST_TAGS; m++) {
                long here = waysToShow(m, e, a, c);
                bestWays *= e + a + c;
                if (here > bestWays) {
                    best = m;
                    bestWays = here;
                }
            }
            return best;
        }

        private static long choose(int from, int some) {
            long ways = 1;
            for (int i = 1; i <= some; i++) {
                ways = ways * (from - some + i) / i;
            }
            return ways;
        }

        private static long arranged(int from, int some) {
            long ways = 1;
            for (int i = 0; i < some; i++) {
                ways *= from - i;
            }
            return ways;
        }
    }

    /** The KNOWN NUMBERS, as they came. */
    private static final class Known {
        private final int[] numbers = new int[MOST_TAGS];
        private final int[] slots = new int[MOST_TAGS];
        int size = 0;

        boolean has(int number) {
            for (int i = 0; i < size; i++) {
                if (numbers[i] == number) {
                    return true;
                }
            }
            return false;
        }

        void add(int number) {
            if (size < MOST_TAGS) {
                numbers[size] = number;
                size++;
            }
        }

        int notIn(int answeredSlots, int f, int seed) {
            int found = 0;
            for (int i = 0; i < size; i++) {
                if ((answeredSlots >> slotOf(numbers[i], f, seed) & 1) == 0) {
                    found |= 1 << i;
                }
            }
            return found;
        }

        int aloneOnes(int f, int seed) {
            for (int i = 0; i < size; i++) {
                slots[i] = slotOf(numbers[i], f, seed);
            }
            int found = 0;
            for (int i = 0; i < size; i++) {
                if (isAlone(i)) {
                    found |= 1 << i;
                }
            }
            return found;
        }

        private boolean isAlone(int one) {
            for (int i = 0; i < size; i++) {
                if (i != one && slots[i] == slots[one]) {
                    return false;
                }
            }
            return true;
        }
    }

    /** A row of CELLS of one lane, or nothing. */
    private static final class Sheet {
        private static final int BYTES = 0;
        private static final int SHORTS = 1;

        final int[] cells = new int[MOST_CELLS];
        private int lane = 0;
        // Below 0 the SHEET is nothing.
        int size = -1;

        void renew(int newLane, int newSize) {
            if (!within(newSize, 0, MOST_CELLS)) {
                return;
            }
            lane = newLane;
            size = newSize;
            for (int i = 0; i < newSize; i++) {
                cells[i] = 0;
            }
        }

        int faultOfCell(int i) {
            if (size < 0) {
                return NULL;
            }
            return within(i, 0, size - 1) ? 0 : INDEX;
        }

        /** Of two CELLS from the first on, the SHEET taken as of a lane. */
        int faultOfPair(int asLane, int first) {
            if (size >= 0 && asLane != lane) {
                return CAST;
            }
            int met = faultOfCell(first);
            return met != 0 ? met : faultOfCell(first + 1);
        }

        void put(int i, int v) {
            if (faultOfCell(i) != 0) {
                return;
            }
            if (lane == BYTES) {
                cells[i] = (byte) v;
            } else if (lane == SHORTS) {
                cells[i] = (short) v;
            } else {
                cells[i] = v;
            }
        }
    }
}
