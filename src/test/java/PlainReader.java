import java.math.BigInteger;
import java.util.ArrayList;
import java.util.List;
import java.util.Map;
import java.util.TreeMap;
import java.util.regex.Matcher;
import java.util.regex.Pattern;

/** The document once more, by way of the library, slow and unlike the program: what each call ought to answer. */
final class PlainReader {
    private static final int BAD = -1, STATE = -2, FULL = -3, NONE = -4, SPENT = -6;
    private static final Pattern TOKEN = Pattern.compile("\\G *(?:([a-z]+)|([0-9]+)|(;)|(\\z)|([^ ]))");
    private static final Map<String, int[]> LINES = Map.of(
            "frame", new int[] {0, 1, 64}, "least", new int[] {1, 1, 64}, "most", new int[] {2, 1, 64},
            "grow", new int[] {3, 1, 100, 100, 400}, "shrink", new int[] {5, 1, 100, 10, 100},
            "above", new int[] {7, 0, 99}, "rounds", new int[] {8, 1, 40});

    private static final class Tag {
        int number;
        int strength;
        boolean silent;
    }

    private static final class Grown {
        final List<String> asked = new ArrayList<>();
        final List<Tag> read = new ArrayList<>();
        int blocked;
        int unanswered;
        int clashed;
    }

    private int n = 6;
    private List<Tag> tags = new ArrayList<>();
    private String blocker;
    private Grown latest;
    private List<Integer> known = new ArrayList<>();
    private String tape = "";
    private int[] rules = atFirst();
    private int fault;
    private int[] shown;
    private int[] went;
    private final Object[] sheets = new Object[4];
    private int torn;

    private static int[] atFirst() {
        return new int[] {8, 1, 64, 60, 200, 60, 50, 0, 20};
    }

    private static boolean outside(int v, int least, int most) {
        return v < least || v > most;
    }

    private boolean isNoNumber(int v) {
        return v < 0 || Integer.toBinaryString(v).length() > n;
    }

    private static String word(int v, int bits) {
        String signs = "0".repeat(bits) + Integer.toBinaryString(v);
        return signs.substring(signs.length() - bits);
    }

    // ---- tags

    public int bits(int v) {
        if (outside(v, 2, 12)) {
            return BAD;
        }
        int was = n;
        n = v;
        tags = new ArrayList<>();
        known = new ArrayList<>();
        blocker = null;
        latest = null;
        return was;
    }

    public int tag(int number, int strength) {
        if (isNoNumber(number) || outside(strength, 1, 99)
                || tags.stream().anyMatch(tag -> tag.number == number)) {
            return BAD;
        }
        if (tags.size() == 16) {
            return FULL;
        }
        Tag tag = new Tag();
        tag.number = number;
        tag.strength = strength;
        tags.add(tag);
        return tags.size() - 1;
    }

    public int of(int t, int what) {
        if (outside(t, 0, tags.size() - 1) || outside(what, 0, 2)) {
            return BAD;
        }
        Tag tag = tags.get(t);
        return new int[] {tag.number, tag.strength, tag.silent ? 1 : 0}[what];
    }

    public int hush(int t, boolean is) {
        if (outside(t, 0, tags.size() - 1)) {
            return BAD;
        }
        int was = of(t, 2);
        tags.get(t).silent = is;
        return was;
    }

    public int wake() {
        int were = count(2);
        tags.forEach(tag -> tag.silent = false);
        return were;
    }

    public int block(int beginning, int b) {
        if (outside(b, -1, n)) {
            return BAD;
        }
        blocker = b < 0 ? null : word(beginning, b);
        return seeming("").size();
    }

    // ---- questions

    private List<String> seeming(String beginning) {
        List<String> words = new ArrayList<>();
        for (int v = 0; blocker != null && v < 1 << n; v++) {
            String word = word(v, n);
            if (word.startsWith(blocker) && word.startsWith(beginning)) {
                words.add(word);
            }
        }
        return words;
    }

    private List<Tag> answering(String beginning) {
        return tags.stream().filter(tag -> !tag.silent && word(tag.number, n).startsWith(beginning)).toList();
    }

    private static String heardOf(List<String> words, int behind) {
        char[] heard = null;
        for (String word : words) {
            char[] bits = word.substring(behind).toCharArray();
            for (int i = 0; heard != null && i < bits.length; i++) {
                bits[i] = bits[i] == heard[i] ? bits[i] : 'X';
            }
            heard = bits;
        }
        return heard == null ? "" : new String(heard);
    }

    public int ask(int k, int beginning, int what) {
        if (outside(k, 0, n) || outside(beginning, 0, (1 << k) - 1) || outside(what, 0, 2)) {
            return BAD;
        }
        List<String> words = seeming(word(beginning, k));
        answering(word(beginning, k)).forEach(tag -> words.add(word(tag.number, n)));
        if (what == 0) {
            return words.size();
        }
        String heard = heardOf(words, k);
        char sign = what == 1 ? '1' : 'X';
        int bits = 0;
        for (int i = 0; i < heard.length(); i++) {
            bits = 2 * bits + (heard.charAt(i) == sign ? 1 : 0);
        }
        return bits;
    }

    private void grow(Grown grown, String beginning, boolean hearing, List<Tag> heardTags, List<String> heardSeeming) {
        if (grown.asked.size() > 2000) {
            return;
        }
        grown.asked.add(beginning);
        List<Tag> answer = heardTags.stream().filter(tag -> word(tag.number, n).startsWith(beginning)).toList();
        List<String> seem = heardSeeming.stream().filter(word -> word.startsWith(beginning)).toList();
        List<String> words = new ArrayList<>(seem);
        answer.forEach(tag -> words.add(word(tag.number, n)));
        int clash = heardOf(words, beginning.length()).indexOf('X');
        if (clash >= 0) {
            grown.clashed++;
            int length = hearing ? beginning.length() + clash : beginning.length();
            grow(grown, words.get(0).substring(0, length) + "0", hearing, answer, seem);
            grow(grown, words.get(0).substring(0, length) + "1", hearing, answer, seem);
        } else if (!answer.isEmpty()) {
            grown.read.addAll(answer);
        } else if (!seem.isEmpty()) {
            grown.blocked++;
        } else {
            grown.unanswered++;
        }
    }

    public int tree(int way) {
        if (outside(way, 0, 1)) {
            return BAD;
        }
        Grown grown = new Grown();
        grow(grown, "", way == 1, answering(""), seeming(""));
        if (grown.asked.size() > 2000) {
            return SPENT;
        }
        grown.read.forEach(tag -> tag.silent = true);
        latest = grown;
        return grown.asked.size();
    }

    public int grown(int what) {
        if (outside(what, 0, 4)) {
            return BAD;
        }
        return latest == null ? STATE : new int[] {latest.asked.size(), latest.read.size(), latest.blocked,
            latest.unanswered, latest.clashed}[what];
    }

    private List<String> kept() {
        return latest == null ? List.of() : latest.asked.subList(0, Math.min(64, latest.asked.size()));
    }

    public int heard(int i, int what) {
        if (outside(i, 0, kept().size() - 1) || outside(what, 0, 1)) {
            return BAD;
        }
        String beginning = kept().get(i);
        return what == 0 ? beginning.length() : Integer.parseInt("0" + beginning, 2);
    }

    public int learns(int number) {
        if (isNoNumber(number)) {
            return BAD;
        }
        return latest == null ? STATE : kept().stream().filter(word(number, n)::startsWith)
                .mapToInt(String::length).max().orElse(0);
    }

    public int would(int way, int v) {
        if (outside(way, 0, 1) || n > 5 || (n < 5 && Integer.toBinaryString(v).length() > 1 << n)) {
            return BAD;
        }
        List<String> words = new ArrayList<>();
        for (int number = 0; number < 1 << n; number++) {
            if (BigInteger.valueOf(v).testBit(number)) {
                words.add(word(number, n));
            }
        }
        Grown grown = new Grown();
        grow(grown, "", way == 1, List.of(), words);
        return grown.asked.size();
    }

    public int most(int way, int m, int what) {
        if (outside(way, 0, 1) || n > 4 || outside(m, 0, 1 << n) || outside(what, 0, 1)) {
            return BAD;
        }
        return PlainTrees.boundsOnce(n, way == 1)[m][what];
    }

    // ---- rules, frames

    public int feed(long v) {
        if (tape.length() > 192) {
            return FULL;
        }
        for (byte sign : java.nio.ByteBuffer.allocate(8).putLong(v).array()) {
            tape += (char) (sign & 255);
        }
        return tape.length();
    }

    public int end(int length) {
        if (outside(length, 0, tape.length())) {
            return BAD;
        }
        int had = tape.length();
        tape = tape.substring(0, length);
        return had;
    }

    private static final class Fault extends RuntimeException {
        private static final long serialVersionUID = 1;
        final int which;
        final int place;

        Fault(int which, int place) {
            this.which = which;
            this.place = place;
        }
    }

    public int rules() {
        String text = tape;
        tape = "";
        try {
            int lines = take(text);
            fault = 0;
            return lines;
        } catch (Fault met) {
            fault = met.which;
            return -10 - met.place;
        }
    }

    /** Finds the next TOKEN: group 1 a NAME, 2 a NUMBER, 3 the ;, 4 the end. */
    private static int token(Matcher matcher) {
        matcher.find();
        for (int group = 1; group <= 4; group++) {
            if (matcher.group(group) == null) {
                continue;
            }
            boolean isNone = group == 1 && !LINES.containsKey(matcher.group(1))
                    || group == 2 && matcher.group(2).length() > 4;
            if (isNone) {
                throw new Fault(1, matcher.start(group));
            }
            return group;
        }
        throw new Fault(1, matcher.start(5));
    }

    private static void expect(Matcher matcher, int group) {
        int found = token(matcher);
        if (found != group) {
            throw new Fault(2, matcher.start(found));
        }
    }

    private int take(String text) {
        Matcher matcher = TOKEN.matcher(text);
        Map<Integer, Integer> told = new TreeMap<>();
        int lines = 0;
        for (int found = token(matcher); found != 4; found = token(matcher)) {
            if (found != 1) {
                throw new Fault(2, matcher.start(found));
            }
            int[] line = LINES.get(matcher.group(1));
            if (told.containsKey(line[0])) {
                throw new Fault(4, matcher.start(1));
            }
            for (int i = 1; i < line.length; i += 2) {
                expect(matcher, 2);
                int value = Integer.parseInt(matcher.group(2));
                if (outside(value, line[i], line[i + 1])) {
                    throw new Fault(3, matcher.start(2));
                }
                told.put(line[0] + i / 2, value);
            }
            expect(matcher, 3);
            lines++;
        }
        int[] all = atFirst();
        told.forEach((rule, value) -> all[rule] = value);
        if (all[1] > all[2]) {
            throw new Fault(5, text.length());
        }
        rules = all;
        return lines;
    }

    public int fault() {
        return fault;
    }

    public int rule(int what) {
        return outside(what, 0, 8) ? BAD : rules[what];
    }

    /** The sum without wrap-around: what an int keeps are the lowest 32 bits. */
    static int slotOf(int number, int f, int seed) {
        BigInteger x = BigInteger.valueOf(40503L * number + seed);
        x = x.multiply(BigInteger.valueOf(1103515245)).add(BigInteger.valueOf(12345));
        return x.shiftRight(16).mod(BigInteger.valueOf(1 << 15)).mod(BigInteger.valueOf(f)).intValue();
    }

    public int slot(int number, int f, int seed) {
        return isNoNumber(number) || outside(f, 1, 64) ? BAD : slotOf(number, f, seed);
    }

    public int frame(int f, int seed) {
        if (outside(f, 1, 64)) {
            return BAD;
        }
        Map<Integer, List<Tag>> slots = new TreeMap<>();
        for (Tag tag : answering("")) {
            slots.computeIfAbsent(slotOf(tag.number, f, seed), slot -> new ArrayList<>()).add(tag);
        }
        int[] seen = {f, f - slots.size(), 0, 0, 0};
        for (List<Tag> inside : slots.values()) {
            Tag strong = inside.stream().filter(tag -> isAbove(tag, inside)).findFirst().orElse(null);
            if (strong != null) {
                strong.silent = true;
            }
            seen[inside.size() == 1 ? 2 : strong == null ? 3 : 4]++;
        }
        shown = seen;
        return seen[2] + seen[4];
    }

    private boolean isAbove(Tag tag, List<Tag> inside) {
        boolean isAlone = inside.size() == 1;
        return isAlone || rules[7] > 0 && inside.stream()
                .allMatch(other -> other == tag || tag.strength - other.strength >= rules[7]);
    }

    public int shown(int what) {
        if (outside(what, 0, 4)) {
            return BAD;
        }
        return shown == null ? STATE : shown[what];
    }

    public int all(int seed) {
        went = new int[4];
        int f = rules[0];
        while (went[0] < rules[8]) {
            f = Math.min(rules[2], Math.max(rules[1], f));
            went[2] += frame(f, seed + went[0]);
            went[0]++;
            went[1] += f;
            went[3] = f;
            if (shown[1] == f) {
                return went[0];
            }
            if (100.0 * shown[3] / (f - shown[1]) >= rules[3]) {
                f = f * rules[4] / 100;
            } else if (100.0 * shown[1] / f >= rules[5]) {
                f = f * rules[6] / 100;
            }
        }
        return SPENT;
    }

    public int went(int what) {
        if (outside(what, 0, 3)) {
            return BAD;
        }
        return went == null ? STATE : went[what];
    }

    // ---- odds

    private static long part(BigInteger top, BigInteger bottom, int what) {
        return (what == 0 ? top : bottom).divide(top.gcd(bottom)).longValueExact();
    }

    public long alone(int f, int m, int a, int what) {
        if (outside(f, 1, 12) || outside(m, 1, 12) || outside(a, 0, 12) || outside(what, 0, 1)) {
            return BAD;
        }
        return part(PlainOdds.waysWithAlone(f, m, a), BigInteger.valueOf(f).pow(m), what);
    }

    public long mean(int f, int m, int what) {
        if (outside(f, 1, 12) || outside(m, 1, 12) || outside(what, 0, 1)) {
            return BAD;
        }
        return part(PlainOdds.aloneInAllWays(f, m), BigInteger.valueOf(f).pow(m), what);
    }

    public int best(int m) {
        if (outside(m, 1, 5)) {
            return BAD;
        }
        int best = 1;
        for (int f = 2; f <= 64; f++) {
            BigInteger here = PlainOdds.aloneInAllWays(f, m).multiply(BigInteger.valueOf(best).pow(m + 1));
            BigInteger there = PlainOdds.aloneInAllWays(best, m).multiply(BigInteger.valueOf(f).pow(m + 1));
            best = here.compareTo(there) > 0 ? f : best;
        }
        return best;
    }

    private static boolean isNoShow(int e, int a, int c) {
        long f = (long) e + a + c;
        return e < 0 || a < 0 || c < 0 || f < 1 || f > 8;
    }

    public int guess(int e, int a, int c) {
        if (isNoShow(e, a, c)) {
            return BAD;
        }
        int best = NONE;
        BigInteger likeliest = BigInteger.ZERO;
        for (int m = 0; m <= 16; m++) {
            // Out of f^16 for each m, so that they can be compared.
            BigInteger likely = PlainOdds.ways(e + a + c, m, a, c).multiply(BigInteger.valueOf(e + a + c).pow(16 - m));
            if (likely.compareTo(likeliest) > 0) {
                best = m;
                likeliest = likely;
            }
        }
        return best;
    }

    public long ways(int m, int e, int a, int c) {
        return outside(m, 0, 16) || isNoShow(e, a, c) ? BAD : PlainOdds.ways(e + a + c, m, a, c).longValueExact();
    }

    // ---- missing ones

    public int know(int number) {
        if (isNoNumber(number) || known.contains(number)) {
            return BAD;
        }
        if (known.size() == 16) {
            return FULL;
        }
        known.add(number);
        return known.size();
    }

    public int forget() {
        int were = known.size();
        known = new ArrayList<>();
        return were;
    }

    public int missing(int f, int seed, int slots) {
        if (outside(f, 1, 30) || outside(slots, 0, (1 << f) - 1)) {
            return BAD;
        }
        int bits = 0;
        for (int i = 0; i < known.size(); i++) {
            boolean answered = BigInteger.valueOf(slots).testBit(slotOf(known.get(i), f, seed));
            bits += answered ? 0 : 1 << i;
        }
        return bits;
    }

    public int seen(int f, int seed) {
        if (outside(f, 1, 64)) {
            return BAD;
        }
        int[] slots = known.stream().mapToInt(number -> slotOf(number, f, seed)).toArray();
        int bits = 0;
        for (int i = 0; i < slots.length; i++) {
            int slot = slots[i];
            bits += java.util.Arrays.stream(slots).filter(other -> other == slot).count() == 1 ? 1 << i : 0;
        }
        return bits;
    }

    public int seed(int f, int s) {
        if (outside(f, 1, 64)) {
            return BAD;
        }
        int best = 0;
        int most = Integer.bitCount(seen(f, s));
        for (int i = 1; i < 100; i++) {
            int here = Integer.bitCount(seen(f, s + i));
            best = here > most ? i : best;
            most = Math.max(most, here);
        }
        return s + best;
    }

    // ---- sheets: here the machine finds the FAULTS itself

    public int sheet(int k, int lane, int cells) {
        if (outside(k, 0, 3) || outside(lane, 0, 2) || cells > 40) {
            return BAD;
        }
        try {
            sheets[k] = lane == 0 ? new byte[cells] : lane == 1 ? new short[cells] : new int[cells];
            return 1;
        } catch (NegativeArraySizeException size) {
            return -10 - 4;
        }
    }

    public int lay(int k, int i, int v) {
        if (outside(k, 0, 3)) {
            return BAD;
        }
        try {
            if (sheets[k] instanceof byte[] bytes) {
                bytes[i] = (byte) v;
            } else if (sheets[k] instanceof short[] shorts) {
                shorts[i] = (short) v;
            } else {
                ((int[]) sheets[k])[i] = v;
            }
            return 1;
        } catch (NullPointerException nothing) {
            return -10 - 1;
        } catch (ArrayIndexOutOfBoundsException index) {
            return -10 - 2;
        }
    }

    private static int cell(Object sheet, int lane, int i) {
        return lane == 0 ? ((byte[]) sheet)[i] : lane == 1 ? ((short[]) sheet)[i] : ((int[]) sheet)[i];
    }

    public int read(int k, int lane, int f, int m) {
        if (outside(k, 0, 3) || outside(lane, 0, 2) || outside(m, 0, 16)) {
            return BAD;
        }
        List<Tag> before = new ArrayList<>(tags);
        int met = 0;
        try {
            for (int i = 0; i < m; i++) {
                int number = cell(sheets[k], lane, f + 2 * i);
                int answer = tag(number, cell(sheets[k], lane, f + 2 * i + 1));
                if (answer < 0) {
                    tags = before;
                    return answer == BAD ? -20 - i : answer;
                }
            }
        } catch (NullPointerException nothing) {
            met = 1;
        } catch (ArrayIndexOutOfBoundsException index) {
            met = 2;
        } catch (ClassCastException cast) {
            met = 3;
        }
        torn = met;
        return tags.size() - before.size();
    }

    public int torn() {
        return torn;
    }

    public int count(int what) {
        switch (what) {
            case 0:
                return n;
            case 1:
                return tags.size();
            case 2:
                return (int) tags.stream().filter(tag -> tag.silent).count();
            case 3:
                return known.size();
            case 4:
                return kept().size();
            case 5:
                return blocker == null ? NONE : blocker.length();
            case 6:
                return tape.length();
            case 7:
                return sheets[0] == null ? NONE : java.lang.reflect.Array.getLength(sheets[0]);
            default:
                return BAD;
        }
    }
}
