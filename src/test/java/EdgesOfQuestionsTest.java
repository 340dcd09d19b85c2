/** Promises 8 to 14, sentence by sentence: the bounds, the empty and the full, what is refused. */
public final class EdgesOfQuestionsTest {
    private static final int MIN = Integer.MIN_VALUE;
    private static final int MAX = Integer.MAX_VALUE;

    public static void main(String[] args) {
        beginningsHaveZeroToNBits();
        beginningsAreNumbersOfTheirBits();
        nobodyAnswers();
        allAnswer();
        noBitIsBehindNBits();
        theFirstBitIsTheHighest();
        theBlockerAnswersForAllBeneath();
        askingSilencesNobody();
        askRefused();
        treeOfNobody();
        treeOfOne();
        treeOfTheLastBit();
        treeOfTheFirstBit();
        hearingGoesOnByAllBits();
        withNBitsNothingClashes();
        treeOfSixteen();
        treesOfTheBlockerAlone();
        theGreatestTree();
        moreThanTwoThousand();
        treeRefused();
        spentStaysAsItWas();
        grownOfNone();
        grownOfTheLatest();
        grownRefused();
        sixtyFourAreKept();
        heardRefused();
        learnsFromNothingToAll();
        learnsNothingBehindTheKept();
        learnsRefused();
        wouldForSets();
        wouldRefused();
        mostOfNoneOneAll();
        mostRefused();
        Check.finish("EdgesOfQuestionsTest");
    }

    private static TagReader withTags(int n, int... numbers) {
        TagReader x = new TagReader();
        x.bits(n);
        for (int number : numbers) {
            x.tag(number, 1);
        }
        return x;
    }

    private static void grownIs(TagReader x, int... want) {
        for (int what = 0; what < 5; what++) {
            Check.due("grown(" + what + ")", x.grown(what), want[what]);
        }
    }

    /** "a beginning of k bits (0 to n)". */
    private static void beginningsHaveZeroToNBits() {
        for (int n = 2; n <= 12; n++) {
            TagReader x = withTags(n, 0);
            for (int what = 0; what < 3; what++) {
                Check.due("k -1", x.ask(-1, 0, what), TagReader.BAD);
                Check.due("k 0", x.ask(0, 0, what), what == 0 ? 1 : 0);
                Check.due("k n", x.ask(n, 0, what), what == 0 ? 1 : 0);
                Check.due("k n and 1", x.ask(n + 1, 0, what), TagReader.BAD);
            }
        }
    }

    /** "k bits, the beginning as a number". */
    private static void beginningsAreNumbersOfTheirBits() {
        TagReader x = withTags(12, 0, 4095);
        for (int k = 0; k <= 12; k++) {
            Check.due("-1 of " + k, x.ask(k, -1, 0), TagReader.BAD);
            Check.due("0 of " + k, x.ask(k, 0, 0), k == 0 ? 2 : 1);
            Check.due("the last of " + k, x.ask(k, (1 << k) - 1, 0), k == 0 ? 2 : 1);
            Check.due("one more of " + k, x.ask(k, 1 << k, 0), TagReader.BAD);
        }
    }

    /** "HEARD: nothing". */
    private static void nobodyAnswers() {
        TagReader x = withTags(4, 0);
        x.hush(0, true);
        TagReader y = withTags(4, 0);
        for (int what = 0; what < 3; what++) {
            Check.due("no TAGS", withTags(4).ask(0, 0, what), 0);
            Check.due("a SILENT one", x.ask(0, 0, what), 0);
            Check.due("none that begins so", y.ask(1, 1, what), 0);
        }
    }

    private static void allAnswer() {
        TagReader x = withTags(4, 0, 1, 2, 3, 4, 5, 6, 7, 8, 9, 10, 11, 12, 13, 14, 15);
        Check.due("16 answer", x.ask(0, 0, 0), 16);
        Check.due("no bit is 1", x.ask(0, 0, 1), 0);
        Check.due("all bits are X", x.ask(0, 0, 2), 15);
        x.block(0, 0);
        Check.due("16 and 16 that seem to", x.ask(0, 0, 0), 32);
    }

    private static void noBitIsBehindNBits() {
        TagReader x = withTags(12, 4095);
        Check.due("it answers", x.ask(12, 4095, 0), 1);
        Check.due("no bit is 1", x.ask(12, 4095, 1), 0);
        Check.due("no bit is X", x.ask(12, 4095, 2), 0);
        x.block(4095, 12);
        Check.due("two of one NUMBER do not clash", x.ask(12, 4095, 2), 0);
        Check.due("nor ahead of it", x.ask(0, 0, 2), 0);
        Check.due("but they are two", x.ask(12, 4095, 0), 2);
    }

    /** "bits that are heard as 1 (of n - k, the first one the highest)". */
    private static void theFirstBitIsTheHighest() {
        TagReader x = withTags(12, 0b100000000000, 0b100000000001);
        Check.due("the first is 1", x.ask(0, 0, 1), 0b100000000000);
        Check.due("the last is X", x.ask(0, 0, 2), 1);
        Check.due("behind the first", x.ask(1, 1, 1), 0);
        Check.due("the last still", x.ask(11, 0b10000000000, 2), 1);
        TagReader y = withTags(12, 0, 4095);
        Check.due("all are X", y.ask(0, 0, 2), 4095);
        Check.due("all are 1", y.ask(1, 1, 1), 2047);
    }

    /** "for each NUMBER beneath it a TAG seems to answer (it is no TAG, is never SILENT)". */
    private static void theBlockerAnswersForAllBeneath() {
        TagReader x = withTags(12);
        x.block(0, 0);
        Check.due("all", x.ask(0, 0, 0), 4096);
        Check.due("all X", x.ask(0, 0, 2), 4095);
        Check.due("one", x.ask(12, 77, 0), 1);
        x.block(9, 4);
        Check.due("above it", x.ask(3, 4, 0), 256);
        Check.due("at it", x.ask(4, 9, 0), 256);
        Check.due("beneath it", x.ask(5, 19, 0), 128);
        Check.due("ahead of it", x.ask(4, 8, 0), 0);
        Check.due("behind it", x.ask(4, 10, 0), 0);
        Check.due("heard as 1", x.ask(0, 0, 1), 0b100100000000);
        Check.due("heard as X", x.ask(0, 0, 2), 0b000011111111);
        Check.due("it is no TAG", x.count(1), 0);
        x.tree(1);
        Check.due("it is never SILENT", x.ask(0, 0, 0), 256);
        Check.due("none is", x.count(2), 0);
    }

    /** "(Nobody becomes SILENT.)" */
    private static void askingSilencesNobody() {
        for (int what = 0; what < 3; what++) {
            int asked = what;
            Twins.onlyAsks("ask(0, 0, " + what + ")", x -> x.ask(0, 0, asked));
            Twins.onlyAsks("ask(2, 1, " + what + ")", x -> x.ask(2, 1, asked));
        }
        TagReader x = withTags(4, 9);
        Check.due("one alone", x.ask(4, 9, 0), 1);
        Check.due("is not read", x.count(2), 0);
    }

    private static void askRefused() {
        for (int k : new int[] {-1, 13, 31, 32, 33, MIN, MAX}) {
            Twins.refused("ask(" + k + ", 0, 0)", x -> x.ask(k, 0, 0), TagReader.BAD);
        }
        for (int beginning : new int[] {-1, 4, MIN, MAX}) {
            Twins.refused("ask(2, " + beginning + ", 0)", x -> x.ask(2, beginning, 0), TagReader.BAD);
        }
        for (int what : new int[] {-1, 3, MIN, MAX}) {
            Twins.refused("ask(0, 0, " + what + ")", x -> x.ask(0, 0, what), TagReader.BAD);
        }
    }

    private static void treeOfNobody() {
        for (int way = 0; way < 2; way++) {
            TagReader x = withTags(5);
            Check.due("one question", x.tree(way), 1);
            grownIs(x, 1, 0, 0, 1, 0);
            Check.due("one is kept", x.count(4), 1);
            Check.due("of no bits", x.heard(0, 0), 0);
            Check.due("of number 0", x.heard(0, 1), 0);
        }
    }

    /** "where there is no clash the TAG is read (SILENT then)". */
    private static void treeOfOne() {
        for (int way = 0; way < 2; way++) {
            TagReader x = withTags(12, 4095);
            Check.due("one question", x.tree(way), 1);
            grownIs(x, 1, 1, 0, 0, 0);
            Check.due("SILENT then", x.of(0, 2), 1);
            Check.due("nobody then", x.tree(way), 1);
            grownIs(x, 1, 0, 0, 1, 0);
            Check.due("still SILENT", x.of(0, 2), 1);
        }
    }

    /** BLIND: one bit more each time; HEARING: "by all bits up to the first X". */
    private static void treeOfTheLastBit() {
        for (int n = 2; n <= 12; n++) {
            int top = (1 << n) - 1;
            TagReader x = withTags(n, top, top - 1);
            Check.due("blind", x.tree(0), 2 * n + 1);
            grownIs(x, 2 * n + 1, 2, 0, n - 1, n);
            Check.due("the last has n bits", x.heard(2 * n, 0), n);
            Check.due("and is the top", x.heard(2 * n, 1), top);
            x.wake();
            Check.due("hearing", x.tree(1), 3);
            grownIs(x, 3, 2, 0, 0, 1);
            Check.due("n bits", x.heard(1, 0), n);
            Check.due("0 first", x.heard(1, 1), top - 1);
            Check.due("then 1", x.heard(2, 1), top);
        }
    }

    private static void treeOfTheFirstBit() {
        for (int way = 0; way < 2; way++) {
            TagReader x = withTags(12, 4095, 2047);
            Check.due("three", x.tree(way), 3);
            grownIs(x, 3, 2, 0, 0, 1);
            Check.due("one bit", x.heard(1, 0), 1);
            Check.due("0 first", x.heard(1, 1), 0);
            Check.due("then 1", x.heard(2, 1), 1);
        }
    }

    /** "by all bits up to the first X, then 0, then 1": from a beginning that is longer already, too. */
    private static void hearingGoesOnByAllBits() {
        TagReader x = withTags(12, 0b011011010110, 0b011011010111, 0b011011110101, 0b011111110101, 0b011111110100);
        Check.due("questions", x.tree(1), 9);
        int[] bits = {0, 4, 7, 12, 12, 7, 4, 12, 12};
        int[] beginnings = {0, 0b0110, 0b0110110, 0b011011010110, 0b011011010111, 0b0110111, 0b0111, 0b011111110100,
            0b011111110101};
        for (int i = 0; i < 9; i++) {
            Check.due("bits of " + i, x.heard(i, 0), bits[i]);
            Check.due("beginning of " + i, x.heard(i, 1), beginnings[i]);
        }
        grownIs(x, 9, 5, 0, 0, 4);
    }

    /** "With n bits nothing can clash." */
    private static void withNBitsNothingClashes() {
        for (int way = 0; way < 2; way++) {
            TagReader x = withTags(3, 5);
            x.block(5, 3);
            Check.due("a TAG and the BLOCKER's own", x.tree(way), 1);
            grownIs(x, 1, 1, 0, 0, 0);
            x.wake();
            x.block(0, 0);
            Check.due("all of them", x.tree(way), 15);
            grownIs(x, 15, 1, 7, 0, 7);
            Check.due("the TAG is read", x.of(0, 2), 1);
        }
    }

    private static void treeOfSixteen() {
        int[] all = {15, 14, 13, 12, 11, 10, 9, 8, 7, 6, 5, 4, 3, 2, 1, 0};
        for (int way = 0; way < 2; way++) {
            TagReader x = withTags(4, all);
            Check.due("all of 4 bits", x.tree(way), 31);
            grownIs(x, 31, 16, 0, 0, 15);
            Check.due("all are SILENT", x.count(2), 16);
        }
    }

    private static void treesOfTheBlockerAlone() {
        for (int n = 2; n <= 9; n++) {
            for (int b = 0; b <= n; b++) {
                TagReader x = withTags(n);
                x.block(MAX, b);
                int beneath = 1 << n - b;
                Check.due("hearing", x.tree(1), 2 * beneath - 1);
                grownIs(x, 2 * beneath - 1, 0, beneath, 0, beneath - 1);
                int down = b == n ? 0 : b;
                Check.due("blind", x.tree(0), 2 * beneath - 1 + 2 * down);
                grownIs(x, 2 * beneath - 1 + 2 * down, 0, beneath, down, beneath - 1 + down);
            }
        }
    }

    /** The most that 16 TAGS and one BLOCKER can bring below 2000: all trees between it and 2047 can't be. */
    private static void theGreatestTree() {
        int[] numbers = new int[16];
        for (int i = 0; i < 16; i++) {
            numbers[i] = (i < 14 ? (i / 2 + 1) * 512 : 7 * 512 + 256) + i % 2;
        }
        TagReader x = withTags(12, numbers);
        x.block(0, 3);
        Check.due("questions", x.tree(0), 1179);
        grownIs(x, 1179, 16, 512, 1179 - 528 - 589, 589);
        Check.due("64 are kept", x.count(4), 64);
        Check.due("all are SILENT", x.count(2), 16);
    }

    /** "SPENT: more than 2000 would be asked": of BLOCKERS alone 2047 are the first that are more. */
    private static void moreThanTwoThousand() {
        int[][] tooGreat = {{12, 2}, {12, 1}, {12, 0}, {11, 1}, {11, 0}, {10, 0}};
        for (int[] blocker : tooGreat) {
            TagReader x = withTags(blocker[0]);
            x.block(-1, blocker[1]);
            Check.due("hearing, b " + blocker[1] + " of " + blocker[0], x.tree(1), TagReader.SPENT);
            Check.due("blind, b " + blocker[1] + " of " + blocker[0], x.tree(0), TagReader.SPENT);
            Check.due("there was no tree", x.grown(0), TagReader.STATE);
        }
        int[][] justSmallEnough = {{12, 3}, {11, 2}, {10, 1}, {9, 0}};
        for (int[] blocker : justSmallEnough) {
            TagReader x = withTags(blocker[0]);
            x.block(-1, blocker[1]);
            Check.due("hearing, b " + blocker[1] + " of " + blocker[0], x.tree(1), 1023);
            Check.due("blind, b " + blocker[1] + " of " + blocker[0], x.tree(0), 1023 + 2 * blocker[1]);
        }
    }

    private static void treeRefused() {
        for (int way : new int[] {-1, 2, MIN, MAX}) {
            Twins.refused("tree(" + way + ")", x -> x.tree(way), TagReader.BAD);
            Twins.refused("BAD ahead of SPENT", EdgesOfQuestionsTest::makeTooGreat, x -> x.tree(way), TagReader.BAD);
        }
    }

    private static void makeTooGreat(TagReader x) {
        Twins.makeFull(x);
        x.block(1, 1);
    }

    /** "(all stays as it was)". */
    private static void spentStaysAsItWas() {
        for (int w = 0; w < 2; w++) {
            int way = w;
            Twins.refused("SPENT", EdgesOfQuestionsTest::makeTooGreat, x -> x.tree(way), TagReader.SPENT);
        }
        TagReader x = withTags(12, 1, 2);
        x.hush(1, true);
        x.tree(0);
        x.wake();
        x.block(0, 0);
        Check.due("SPENT", x.tree(0), TagReader.SPENT);
        Check.due("nobody became SILENT", x.count(2), 0);
        grownIs(x, 1, 1, 0, 0, 0);
        Check.due("its question is kept", x.count(4), 1);
        Check.due("no other is", x.heard(1, 0), TagReader.BAD);
        Check.due("the ear learnt nothing", x.learns(0), 0);
    }

    private static void grownOfNone() {
        for (int what = 0; what < 5; what++) {
            Check.due("a new object", new TagReader().grown(what), TagReader.STATE);
            TagReader x = withTags(10);
            x.block(0, 0);
            x.tree(0);
            Check.due("SPENT is no tree", x.grown(what), TagReader.STATE);
            x.tree(5);
            Check.due("BAD is no tree", x.grown(what), TagReader.STATE);
        }
    }

    private static void grownOfTheLatest() {
        TagReader x = withTags(4, 8, 9);
        x.block(1, 4);
        x.tree(0);
        grownIs(x, 9, 2, 1, 2, 4);
        x.tree(1);
        grownIs(x, 1, 0, 1, 0, 0);
        x.tag(1, 1);
        x.tree(1);
        grownIs(x, 1, 1, 0, 0, 0);
    }

    private static void grownRefused() {
        for (int what : new int[] {-1, 5, MIN, MAX}) {
            Twins.refused("grown(" + what + ")", x -> x.grown(what), TagReader.BAD);
        }
        Twins.refused("STATE", x -> { }, x -> x.grown(4), TagReader.STATE);
        Twins.onlyAsks("grown(4)", x -> x.grown(4));
    }

    /** "(64 are kept, those behind are not)": trees of 63, 65 and 127 questions. */
    private static void sixtyFourAreKept() {
        TagReader x = withTags(5);
        x.block(0, 0);
        Check.due("63", x.tree(0), 63);
        Check.due("all are kept", x.count(4), 63);
        Check.due("the last", x.heard(62, 1), 31);
        Check.due("one more", x.heard(63, 1), TagReader.BAD);
        TagReader y = withTags(6, 63);
        y.block(0, 1);
        Check.due("65", y.tree(1), 65);
        Check.due("64 are kept", y.count(4), 64);
        Check.due("the last bits", y.heard(63, 0), 6);
        Check.due("the last", y.heard(63, 1), 31);
        Check.due("one more", y.heard(64, 1), TagReader.BAD);
        y.block(0, 0);
        Check.due("127", y.tree(1), 127);
        Check.due("64 still", y.count(4), 64);
        y.block(0, -1);
        Check.due("1", y.tree(1), 1);
        Check.due("the latest tree's alone", y.count(4), 1);
        Check.due("none behind it", y.heard(1, 0), TagReader.BAD);
    }

    private static void heardRefused() {
        for (int what = 0; what < 2; what++) {
            int asked = what;
            Twins.refused("no question", x -> { }, x -> x.heard(0, asked), TagReader.BAD);
            for (int i : new int[] {-1, 64, 65, MIN, MAX}) {
                Twins.refused("heard(" + i + ")", x -> x.heard(i, asked), TagReader.BAD);
            }
        }
        for (int what : new int[] {-1, 2, MIN, MAX}) {
            Twins.refused("heard(0, " + what + ")", x -> x.heard(0, what), TagReader.BAD);
        }
        Twins.onlyAsks("heard(0, 0)", x -> x.heard(0, 0));
    }

    /** "of a NUMBER it learns the longest beginning of it that was asked: so many bits". */
    private static void learnsFromNothingToAll() {
        TagReader x = withTags(12, 4094, 4095);
        x.tree(1);
        Check.due("all of the top", x.learns(4095), 12);
        Check.due("all of its neighbour", x.learns(4094), 12);
        Check.due("nothing of another", x.learns(4093), 0);
        Check.due("nothing of 0", x.learns(0), 0);
        x.wake();
        x.tree(0);
        for (int bits = 1; bits <= 12; bits++) {
            int other = 4095 ^ 1 << 12 - bits;
            Check.due("of " + other, x.learns(other), bits);
        }
    }

    private static void learnsNothingBehindTheKept() {
        TagReader y = withTags(6, 63);
        y.block(0, 1);
        y.tree(1);
        Check.due("the last that is kept", y.learns(31), 6);
        Check.due("the 65th question was its beginning", y.learns(63), 0);
    }

    private static void learnsRefused() {
        for (int number : new int[] {-1, 4096, MIN, MAX}) {
            Twins.refused("learns(" + number + ")", x -> x.learns(number), TagReader.BAD);
        }
        Twins.refused("learns(32) of 5 bits", Twins::makeRich, x -> x.learns(32), TagReader.BAD);
        Twins.refused("no tree", x -> { }, x -> x.learns(63), TagReader.STATE);
        Twins.refused("BAD ahead of STATE", x -> { }, x -> x.learns(64), TagReader.BAD);
        Twins.onlyAsks("learns(31)", x -> x.learns(31));
    }

    /** "a set of NUMBERS (bits; n 2 to 5 alone) with no BLOCKER". */
    private static void wouldForSets() {
        for (int n = 2; n <= 5; n++) {
            TagReader x = withTags(n, 0);
            x.block(0, 0);
            int all = n == 5 ? -1 : (1 << (1 << n)) - 1;
            int top = 1 << (1 << n) - 1;
            for (int way = 0; way < 2; way++) {
                Check.due("none", x.would(way, 0), 1);
                Check.due("0 alone", x.would(way, 1), 1);
                Check.due("the top alone", x.would(way, top), 1);
                Check.due("the ends", x.would(way, top | 1), 3);
                Check.due("neighbours", x.would(way, 3), way == 0 ? 2 * n + 1 : 3);
                Check.due("all of " + n, x.would(way, all), (2 << n) - 1);
            }
        }
    }

    /** "BAD: also n above 5; for n 5 all 32 bits of v may be set". */
    private static void wouldRefused() {
        for (int n = 2; n <= 4; n++) {
            TagReader x = withTags(n);
            for (int v : new int[] {1 << (1 << n), 1 << 30, MIN, MAX, -1}) {
                Check.due("would(0, " + v + ") of " + n, x.would(0, v), TagReader.BAD);
                Check.due("would(1, " + v + ") of " + n, x.would(1, v), TagReader.BAD);
            }
        }
        for (int n = 6; n <= 12; n++) {
            Check.due("n " + n, withTags(n).would(0, 0), TagReader.BAD);
        }
        for (int way : new int[] {-1, 2, MIN, MAX}) {
            Twins.refused("would(" + way + ", 1)", x -> x.would(way, 1), TagReader.BAD);
        }
        Twins.refused("n 12", Twins::makeFull, x -> x.would(1, 1), TagReader.BAD);
        Twins.onlyAsks("would(0, -1)", x -> x.would(0, -1));
        Twins.onlyAsks("would(1, -1)", x -> x.would(1, -1));
    }

    /** "for any m NUMBERS (0 to 16; n 2 to 4 alone; what 0), the fewest (1)". */
    private static void mostOfNoneOneAll() {
        for (int n = 2; n <= 4; n++) {
            TagReader x = withTags(n, 0, 1);
            x.block(0, 0);
            for (int way = 0; way < 2; way++) {
                for (int what = 0; what < 2; what++) {
                    Check.due("none of " + n, x.most(way, 0, what), 1);
                    Check.due("one of " + n, x.most(way, 1, what), 1);
                    Check.due("all of " + n, x.most(way, 1 << n, what), (2 << n) - 1);
                    Check.due("one more of " + n, x.most(way, (1 << n) + 1, what), TagReader.BAD);
                }
                Check.due("two at most", x.most(way, 2, 0), way == 0 ? 2 * n + 1 : 3);
                Check.due("two at least", x.most(way, 2, 1), 3);
            }
        }
    }

    private static void mostRefused() {
        for (int n = 5; n <= 12; n++) {
            TagReader x = withTags(n);
            Check.due("n " + n, x.most(0, 0, 0), TagReader.BAD);
            Check.due("n " + n + " hearing", x.most(1, 1, 1), TagReader.BAD);
        }
        TagReader x = withTags(4);
        for (int way : new int[] {-1, 2, MIN, MAX}) {
            Check.due("way " + way, x.most(way, 1, 0), TagReader.BAD);
        }
        for (int m : new int[] {-1, 17, MIN, MAX}) {
            Check.due("m " + m, x.most(0, m, 0), TagReader.BAD);
            Check.due("m " + m, x.most(1, m, 1), TagReader.BAD);
        }
        for (int what : new int[] {-1, 2, MIN, MAX}) {
            Check.due("what " + what, x.most(0, 1, what), TagReader.BAD);
            Check.due("what " + what, x.most(1, 1, what), TagReader.BAD);
        }
        Twins.refused("n 5", Twins::makeRich, y -> y.most(0, 2, 0), TagReader.BAD);
        Twins.onlyAsks("most", y -> y.most(0, 2, 0));
        mostLeavesAllAsItWas();
    }

    private static void mostLeavesAllAsItWas() {
        TagReader x = withTags(4, 3, 9, 12);
        x.tree(0);
        int questions = x.grown(0);
        int last = x.heard(questions - 1, 1);
        x.wake();
        x.most(0, 16, 0);
        x.would(0, 65535);
        Check.due("the latest tree", x.grown(0), questions);
        Check.due("its last question", x.heard(questions - 1, 1), last);
        Check.due("nobody became SILENT", x.count(2), 0);
    }
}
