/** Promises 30 to 34. */
public final class MissingTest {
    private static final int MIN = Integer.MIN_VALUE;
    private static final int MAX = Integer.MAX_VALUE;

    public static void main(String[] args) {
        known();
        forgotten();
        missingOnes();
        missingWrongly();
        seenOnes();
        seeds();
        Check.finish("MissingTest");
    }

    private static TagReader withKnown(int... numbers) {
        TagReader x = new TagReader();
        for (int number : numbers) {
            x.know(number);
        }
        return x;
    }

    private static void known() {
        TagReader x = new TagReader();
        x.tag(5, 1);
        for (int number : new int[] {-1, 64, MIN, MAX}) {
            Check.due("know(" + number + ")", x.know(number), TagReader.BAD);
        }
        Check.due("a tag's number", x.know(5), 1);
        Check.due("one that is", x.know(5), TagReader.BAD);
        for (int i = 2; i <= 16; i++) {
            Check.due("the " + i + "th", x.know(64 - i), i);
        }
        Check.due("the 17th", x.know(0), TagReader.FULL);
        Check.due("BAD ahead of FULL", x.know(5), TagReader.BAD);
        Check.due("BAD ahead of FULL too", x.know(64), TagReader.BAD);
        Check.due("16", x.count(3), 16);
        Check.due("no tag came", x.count(1), 1);
    }

    private static void forgotten() {
        TagReader x = withKnown(1, 2, 3);
        Check.due("three", x.forget(), 3);
        Check.due("none", x.forget(), 0);
        Check.due("none is counted", x.count(3), 0);
        Check.due("none is missing", x.missing(5, 0, 0), 0);
        Check.due("none is seen", x.seen(5, 0), 0);
        Check.due("known anew", x.know(3), 1);
    }

    private static void missingOnes() {
        int[] numbers = {9, 40, 3, 63, 0, 17, 22, 30, 31, 50, 51, 52, 60, 61, 12, 13};
        TagReader x = withKnown(numbers);
        for (int f : new int[] {1, 2, 7, 29, 30}) {
            for (int seed : new int[] {0, 5, -8, MAX}) {
                for (int slots : new int[] {0, 1, 0x2AAAAAAA, 0x15555555, (1 << 30) - 1}) {
                    int bits = slots & (1 << f) - 1;
                    int want = 0;
                    for (int i = 0; i < numbers.length; i++) {
                        boolean empty = (bits & 1 << PlainReader.slotOf(numbers[i], f, seed)) == 0;
                        want += empty ? 1 << i : 0;
                    }
                    Check.due("missing(" + f + ", " + seed + ", " + bits + ")", x.missing(f, seed, bits), want);
                }
            }
        }
        Check.due("nobody answered", x.missing(30, 1, 0), 65535);
    }

    private static void missingWrongly() {
        TagReader x = withKnown(1);
        for (int f : new int[] {0, 31, 64, -1, MIN, MAX}) {
            Check.due("missing(" + f + ")", x.missing(f, 0, 0), TagReader.BAD);
        }
        Check.due("slots below 0", x.missing(30, 0, -1), TagReader.BAD);
        Check.due("slots lowest", x.missing(30, 0, MIN), TagReader.BAD);
        Check.due("a slot beyond 30", x.missing(30, 0, 1 << 30), TagReader.BAD);
        Check.due("a slot beyond 1", x.missing(1, 0, 2), TagReader.BAD);
        Check.due("the one slot", x.missing(1, 0, 1), 0);
        Check.due("the greatest", x.missing(30, 0, (1 << 30) - 1), 0);
    }

    private static int plainSeen(int[] numbers, int f, int seed) {
        int[] inside = new int[f];
        for (int number : numbers) {
            inside[PlainReader.slotOf(number, f, seed)]++;
        }
        int seen = 0;
        for (int i = 0; i < numbers.length; i++) {
            seen += inside[PlainReader.slotOf(numbers[i], f, seed)] == 1 ? 1 << i : 0;
        }
        return seen;
    }

    private static void seenOnes() {
        int[] numbers = {9, 40, 3, 63, 0, 17, 22, 30, 31, 50, 51, 52, 60, 61, 12, 13};
        TagReader x = withKnown(numbers);
        x.tag(9, 1);
        x.hush(0, true);
        for (int f = 1; f <= 64; f += 7) {
            for (int seed : new int[] {0, 1, -1, 77, MIN, MAX}) {
                Check.due("seen(" + f + ", " + seed + ")", x.seen(f, seed), plainSeen(numbers, f, seed));
            }
        }
        Check.due("one alone in one slot", withKnown(8).seen(1, 0), 1);
        Check.due("two in one slot", withKnown(8, 9).seen(1, 0), 0);
        for (int f : new int[] {0, 65, -1, MIN, MAX}) {
            Check.due("seen(" + f + ")", x.seen(f, 0), TagReader.BAD);
        }
    }

    private static void seeds() {
        int[][] sets = {{}, {4}, {4, 5}, {1, 2, 3, 4, 5, 6}, {9, 40, 3, 63, 0, 17, 22, 30, 31, 50, 51}};
        for (int[] numbers : sets) {
            TagReader x = withKnown(numbers);
            for (int f : new int[] {1, 2, 5, 16, 64}) {
                for (int s : new int[] {0, 3, -50, 1000000, MAX - 99, MIN}) {
                    int best = s;
                    for (int i = 1; i < 100; i++) {
                        int here = Integer.bitCount(plainSeen(numbers, f, s + i));
                        best = here > Integer.bitCount(plainSeen(numbers, f, best)) ? s + i : best;
                    }
                    Check.due("seed(" + f + ", " + s + ")", x.seed(f, s), best);
                }
            }
        }
        hundredSeeds();
        TagReader x = withKnown(1, 2);
        for (int f : new int[] {0, 65, -1, MIN, MAX}) {
            Check.due("seed(" + f + ")", x.seed(f, 0), TagReader.BAD);
        }
        Check.due("known ones stay", x.count(3), 2);
    }

    /** A seed that is better than the hundred ahead of it is found from 99 ahead of it on, not from 100. */
    private static void hundredSeeds() {
        int[] numbers = {9, 40, 3, 63, 0, 17, 22, 30, 31, 50};
        TagReader x = withKnown(numbers);
        int[] seen = new int[5000];
        for (int seed = 0; seed < seen.length; seed++) {
            seen[seed] = Integer.bitCount(plainSeen(numbers, 13, seed));
        }
        int found = 0;
        for (int seed = 100; seed < seen.length; seed++) {
            int most = 0;
            for (int i = seed - 100; i < seed; i++) {
                most = Math.max(most, seen[i]);
            }
            if (seen[seed] > most) {
                Check.due("the last of a hundred", x.seed(13, seed - 99), seed);
                Check.holds("one too far", x.seed(13, seed - 100) < seed);
                found++;
            }
        }
        Check.holds("some were found", found > 0);
    }
}
