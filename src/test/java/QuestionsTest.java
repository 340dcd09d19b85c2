/** Promises 8 to 14. */
public final class QuestionsTest {
    private static final int MIN = Integer.MIN_VALUE;
    private static final int MAX = Integer.MAX_VALUE;

    public static void main(String[] args) {
        asked();
        askedOfBlocker();
        askedWrongly();
        blindTree();
        hearingTree();
        treeWithBlocker();
        treeSpent();
        grownWrongly();
        whatTheEarHears();
        whatTheEarLearns();
        whatTreesWouldAsk();
        mostAndFewest();
        Check.finish("QuestionsTest");
    }

    private static TagReader withTags(int n, int... numbers) {
        TagReader x = new TagReader();
        x.bits(n);
        for (int number : numbers) {
            x.tag(number, 1);
        }
        return x;
    }

    private static void asked() {
        TagReader x = withTags(4, 0b0110, 0b0111, 0b1100);
        Check.due("all", x.ask(0, 0, 0), 3);
        Check.due("heard as 1", x.ask(0, 0, 1), 0b0100);
        Check.due("heard as X", x.ask(0, 0, 2), 0b1011);
        Check.due("beneath 0", x.ask(1, 0, 0), 2);
        Check.due("beneath 0 as 1", x.ask(1, 0, 1), 0b110);
        Check.due("beneath 0 as X", x.ask(1, 0, 2), 0b001);
        Check.due("beneath 10", x.ask(2, 2, 0), 0);
        Check.due("nothing is no 1", x.ask(2, 2, 1), 0);
        Check.due("nothing is no X", x.ask(2, 2, 2), 0);
        Check.due("with n bits", x.ask(4, 12, 0), 1);
        Check.due("no bit behind is 1", x.ask(4, 12, 1), 0);
        Check.due("no bit behind is X", x.ask(4, 12, 2), 0);
        Check.due("nobody became silent", x.count(2), 0);
        x.hush(1, true);
        Check.due("the silent one does not answer", x.ask(1, 0, 0), 1);
        Check.due("so nothing clashes", x.ask(1, 0, 2), 0);
        Check.due("asking is no tree", x.grown(0), TagReader.STATE);
        Check.due("and not kept", x.count(4), 0);
    }

    private static void askedOfBlocker() {
        TagReader x = withTags(4, 0b0110, 0b1101);
        x.block(0b110, 3);
        Check.due("two and two", x.ask(0, 0, 0), 4);
        Check.due("as 1", x.ask(0, 0, 1), 0b0100);
        Check.due("as X", x.ask(0, 0, 2), 0b1011);
        Check.due("beneath 11", x.ask(2, 3, 0), 3);
        Check.due("beneath 11 as 1", x.ask(2, 3, 1), 0);
        Check.due("beneath 11 as X", x.ask(2, 3, 2), 1);
        Check.due("the tag's own and the seeming one", x.ask(4, 13, 0), 2);
        Check.due("the seeming one", x.ask(4, 12, 0), 1);
        Check.due("not beneath", x.ask(3, 7, 0), 0);
        x.hush(1, true);
        Check.due("the seeming one is never silent", x.ask(4, 13, 0), 1);
        x.block(1, 1);
        Check.due("a beginning that goes on beneath the blocker", x.ask(2, 2, 0), 4);
        Check.due("all its bits clash", x.ask(2, 2, 2), 3);
        Check.due("none is 1", x.ask(2, 2, 1), 0);
        Check.due("beneath 0 the blocker is not heard", x.ask(1, 0, 0), 1);
    }

    private static void askedWrongly() {
        TagReader x = withTags(4, 3);
        for (int k : new int[] {-1, 5, MIN, MAX, 32}) {
            Check.due("ask(" + k + ", 0, 0)", x.ask(k, 0, 0), TagReader.BAD);
        }
        Check.due("one too long", x.ask(2, 4, 0), TagReader.BAD);
        Check.due("of no bits", x.ask(0, 1, 0), TagReader.BAD);
        Check.due("of 4 bits", x.ask(4, 16, 0), TagReader.BAD);
        Check.due("below 0", x.ask(2, -1, 0), TagReader.BAD);
        Check.due("far below 0", x.ask(2, MIN, 0), TagReader.BAD);
        for (int what : new int[] {-1, 3, MIN, MAX}) {
            Check.due("ask(0, 0, " + what + ")", x.ask(0, 0, what), TagReader.BAD);
        }
    }

    private static void grownIs(TagReader x, int... want) {
        for (int what = 0; what < want.length; what++) {
            Check.due("grown(" + what + ")", x.grown(what), want[what]);
        }
    }

    private static void blindTree() {
        TagReader none = withTags(4);
        Check.due("nobody", none.tree(0), 1);
        grownIs(none, 1, 0, 0, 1, 0);
        TagReader one = withTags(4, 9);
        Check.due("one", one.tree(0), 1);
        grownIs(one, 1, 1, 0, 0, 0);
        Check.due("it is silent then", one.of(0, 2), 1);
        TagReader two = withTags(4, 8, 9);
        Check.due("two at the last bit", two.tree(0), 9);
        grownIs(two, 9, 2, 0, 3, 4);
        Check.due("both are silent", two.count(2), 2);
        Check.due("a second tree hears nobody", two.tree(0), 1);
        grownIs(two, 1, 0, 0, 1, 0);
        TagReader ahead = withTags(4, 2, 3, 12);
        ahead.hush(2, true);
        Check.due("the silent one is not met", ahead.tree(0), 9);
        grownIs(ahead, 9, 2, 0, 3, 4);
    }

    private static void hearingTree() {
        TagReader x = withTags(4, 8, 9);
        Check.due("two at the last bit", x.tree(1), 3);
        grownIs(x, 3, 2, 0, 0, 1);
        Check.due("on by all bits up to the clash", x.heard(1, 0), 4);
        Check.due("then 0", x.heard(1, 1), 8);
        Check.due("then 1", x.heard(2, 1), 9);
        TagReader y = withTags(6, 0b101100, 0b101111, 0b101110);
        Check.due("three", y.tree(1), 5);
        int[][] want = {{0, 0}, {5, 0b10110}, {5, 0b10111}, {6, 0b101110}, {6, 0b101111}};
        for (int i = 0; i < want.length; i++) {
            Check.due("bits of " + i, y.heard(i, 0), want[i][0]);
            Check.due("beginning of " + i, y.heard(i, 1), want[i][1]);
        }
    }

    private static void treeWithBlocker() {
        TagReader x = withTags(4, 1, 14);
        x.block(7, 3);
        Check.due("hearing", x.tree(1), 5);
        grownIs(x, 5, 2, 1, 0, 2);
        Check.due("the tags are silent", x.count(2), 2);
        Check.due("the blocker is not", x.tree(1), 3);
        grownIs(x, 3, 0, 2, 0, 1);
        x.block(3, 4);
        Check.due("one seeming tag", x.tree(0), 1);
        grownIs(x, 1, 0, 1, 0, 0);
        x.block(0, 0);
        Check.due("all", x.tree(0), 31);
        grownIs(x, 31, 0, 16, 0, 15);
    }

    private static void treeSpent() {
        TagReader x = withTags(12, 5);
        Check.due("a tree", x.tree(0), 1);
        x.wake();
        x.block(0, 2);
        Check.due("2047 beneath 00 and two more", x.tree(0), TagReader.SPENT);
        Check.due("hearing asks 2047", x.tree(1), TagReader.SPENT);
        Check.due("nobody became silent", x.count(2), 0);
        Check.due("the latest tree stays", x.grown(0), 1);
        Check.due("its questions stay", x.count(4), 1);
        Check.due("BAD ahead of SPENT", x.tree(2), TagReader.BAD);
        x.block(0, 3);
        Check.due("1023 by hearing", x.tree(1), 1023);
        grownIs(x, 1023, 1, 511, 0, 511);
        Check.due("blind, with the way down to it", x.tree(0), 1029);
        grownIs(x, 1029, 0, 512, 3, 514);
        greatTrees();
    }

    /** Trees of all sizes that 16 TAGS beside a BLOCKER can make: none is refused that is small enough. */
    private static void greatTrees() {
        for (int i = 0; i < 40; i++) {
            TagReader x = withTags(12);
            x.block(i, 3 + i % 3);
            int[] numbers = new int[16];
            for (int t = 0; t < 16; t++) {
                numbers[t] = (t / 2 * 512 + i * 37 + 1 ^ t % 2) & 4095;
                Check.due("tag", x.tag(numbers[t], 1), t);
            }
            int blocker = i & (1 << 3 + i % 3) - 1;
            boolean hearing = i % 2 == 1;
            int want = PlainTrees.questions(12, 3 + i % 3, blocker, numbers, hearing);
            Check.holds("small enough", want <= 2000);
            Check.due("tree " + i, x.tree(i % 2), want);
            Check.due("all are read", x.count(2), 16);
            Check.due("and counted", x.grown(1), 16);
        }
    }

    private static void grownWrongly() {
        TagReader x = withTags(4, 1);
        for (int what : new int[] {-1, 5, MIN, MAX}) {
            Check.due("BAD ahead of STATE", x.grown(what), TagReader.BAD);
        }
        for (int what = 0; what < 5; what++) {
            Check.due("no tree yet", x.grown(what), TagReader.STATE);
        }
        for (int way : new int[] {-1, 2, MIN, MAX}) {
            Check.due("tree(" + way + ")", x.tree(way), TagReader.BAD);
        }
        Check.due("still no tree", x.grown(0), TagReader.STATE);
    }

    private static void whatTheEarHears() {
        TagReader x = withTags(3, 1, 5);
        Check.due("no question yet", x.heard(0, 0), TagReader.BAD);
        Check.due("tree", x.tree(0), 3);
        int[][] want = {{0, 0}, {1, 0}, {1, 1}};
        for (int i = 0; i < 3; i++) {
            Check.due("bits", x.heard(i, 0), want[i][0]);
            Check.due("beginning", x.heard(i, 1), want[i][1]);
        }
        for (int i : new int[] {-1, 3, 64, MIN, MAX}) {
            Check.due("heard(" + i + ", 0)", x.heard(i, 0), TagReader.BAD);
        }
        for (int what : new int[] {-1, 2, MIN, MAX}) {
            Check.due("heard(0, " + what + ")", x.heard(0, what), TagReader.BAD);
        }
        TagReader y = withTags(6);
        y.block(0, 0);
        Check.due("all 64", y.tree(0), 127);
        Check.due("64 are kept", y.count(4), 64);
        // The first of no bits and all 63 beneath 0.
        Check.due("the last bits", y.heard(63, 0), 6);
        Check.due("the last beginning", y.heard(63, 1), 31);
        Check.due("those behind are not", y.heard(64, 0), TagReader.BAD);
        Check.due("yet they are counted", y.grown(0), 127);
    }

    private static void whatTheEarLearns() {
        TagReader x = withTags(4, 0b0011, 0b0010, 0b1100);
        Check.due("BAD ahead of STATE", x.learns(16), TagReader.BAD);
        Check.due("no tree", x.learns(3), TagReader.STATE);
        x.tree(0);
        int[] want = {3, 3, 4, 4, 2, 2, 2, 2, 1, 1, 1, 1, 1, 1, 1, 1};
        for (int number = 0; number < 16; number++) {
            Check.due("learns(" + number + ")", x.learns(number), want[number]);
        }
        for (int number : new int[] {-1, 16, MIN, MAX}) {
            Check.due("learns(" + number + ")", x.learns(number), TagReader.BAD);
        }
        x.tree(1);
        Check.due("of one question of no bits nothing", x.learns(3), 0);
        TagReader y = withTags(6);
        y.block(0, 0);
        y.tree(0);
        Check.due("beneath 0 all", y.learns(31), 6);
        Check.due("what is not kept is not learnt", y.learns(32), 0);
    }

    private static void whatTreesWouldAsk() {
        TagReader x = withTags(2, 1);
        x.block(0, 0);
        Check.due("none", x.would(0, 0), 1);
        Check.due("one", x.would(0, 8), 1);
        Check.due("two far off", x.would(0, 0b0110), 3);
        Check.due("two at the last bit", x.would(0, 0b0011), 5);
        Check.due("by hearing", x.would(1, 0b0011), 3);
        Check.due("all", x.would(0, 15), 7);
        Check.due("beyond", x.would(0, 16), TagReader.BAD);
        Check.due("below 0", x.would(0, -1), TagReader.BAD);
        Check.due("lowest", x.would(1, MIN), TagReader.BAD);
        Check.due("way", x.would(2, 0), TagReader.BAD);
        Check.due("way below", x.would(-1, 0), TagReader.BAD);
        Check.due("the tag is not silent", x.count(2), 0);
        Check.due("there was no tree", x.grown(0), TagReader.STATE);
        x.bits(3);
        Check.due("all 8", x.would(1, 255), 15);
        Check.due("beyond 8", x.would(1, 256), TagReader.BAD);
        x.bits(4);
        Check.due("beyond 16", x.would(1, 65536), TagReader.BAD);
        x.bits(5);
        Check.due("the highest of 32 alone", x.would(0, MIN), 1);
        Check.due("highest two", x.would(0, 3 << 30), 11);
        Check.due("all 32", x.would(1, -1), 63);
        x.bits(6);
        Check.due("n above 5", x.would(0, 1), TagReader.BAD);
        for (int n = 2; n <= 5; n++) {
            x.bits(n);
            for (int i = 0; i < 20; i++) {
                int v = (i * 0x9E3779B1) >>> (n == 5 ? 0 : 32 - (1 << n));
                Check.due("blind " + v, x.would(0, v), PlainTrees.questionsOfSet(n, v, false));
                Check.due("hearing " + v, x.would(1, v), PlainTrees.questionsOfSet(n, v, true));
            }
        }
        wouldLeavesTheLatestTree();
    }

    private static void wouldLeavesTheLatestTree() {
        TagReader x = withTags(4, 1, 2);
        x.tree(0);
        int questions = x.grown(0);
        x.would(0, 65535);
        x.most(0, 5, 0);
        Check.due("grown stays", x.grown(0), questions);
        Check.due("the ear's questions stay", x.count(4), questions);
    }

    private static void mostAndFewest() {
        TagReader x = new TagReader();
        for (int n = 2; n <= 4; n++) {
            x.bits(n);
            for (int way = 0; way < 2; way++) {
                int[][] bounds = PlainTrees.boundsOnce(n, way == 1);
                for (int m = 0; m <= 1 << n; m++) {
                    String call = "most(" + way + ", " + m + ") of " + n;
                    Check.due(call, x.most(way, m, 0), bounds[m][0]);
                    Check.due(call + " fewest", x.most(way, m, 1), bounds[m][1]);
                }
                Check.due("more than there can be", x.most(way, (1 << n) + 1, 0), TagReader.BAD);
                Check.due("m -1", x.most(way, -1, 0), TagReader.BAD);
                Check.due("what 2", x.most(way, 1, 2), TagReader.BAD);
                Check.due("what -1", x.most(way, 1, -1), TagReader.BAD);
            }
            Check.due("way 2", x.most(2, 1, 0), TagReader.BAD);
            Check.due("way -1", x.most(-1, 1, 0), TagReader.BAD);
        }
        x.bits(5);
        Check.due("n 5", x.most(0, 1, 0), TagReader.BAD);
        Check.due("n 5 hearing", x.most(1, 0, 1), TagReader.BAD);
    }
}
