/** Promises 1 to 7. */
public final class TagsTest {
    private static final int MIN = Integer.MIN_VALUE;
    private static final int MAX = Integer.MAX_VALUE;

    public static void main(String[] args) {
        aNewObject();
        bitsOfNumbers();
        bitsTakeAllAway();
        bitsLeaveTheRest();
        tagsAsTheyCome();
        tagsRefused();
        whatTagsAre();
        hushed();
        woken();
        blocked();
        Check.finish("TagsTest");
    }

    private static void aNewObject() {
        TagReader x = new TagReader();
        int[] counts = {6, 0, 0, 0, 0, TagReader.NONE, 0, TagReader.NONE};
        for (int what = 0; what < counts.length; what++) {
            Check.due("new: count(" + what + ")", x.count(what), counts[what]);
        }
        int[] rules = {8, 1, 64, 60, 200, 60, 50, 0, 20};
        for (int what = 0; what < rules.length; what++) {
            Check.due("new: rule(" + what + ")", x.rule(what), rules[what]);
        }
        Check.due("new: fault", x.fault(), 0);
        Check.due("new: torn", x.torn(), 0);
        Check.due("new: grown", x.grown(0), TagReader.STATE);
        Check.due("new: learns", x.learns(0), TagReader.STATE);
        Check.due("new: heard", x.heard(0, 0), TagReader.BAD);
        Check.due("new: shown", x.shown(0), TagReader.STATE);
        Check.due("new: went", x.went(0), TagReader.STATE);
        for (int k = 0; k < 4; k++) {
            Check.due("new: lay", x.lay(k, 0, 0), -11);
        }
        Check.due("new: ask", x.ask(0, 0, 0), 0);
        Check.due("new: wake", x.wake(), 0);
        Check.due("new: forget", x.forget(), 0);
    }

    private static void bitsOfNumbers() {
        TagReader x = new TagReader();
        Check.due("bits(2)", x.bits(2), 6);
        Check.due("bits(12)", x.bits(12), 2);
        for (int v : new int[] {1, 13, 0, -1, MIN, MAX}) {
            Check.due("bits(" + v + ")", x.bits(v), TagReader.BAD);
        }
        Check.due("n stays", x.count(0), 12);
        Check.due("bits(12) again", x.bits(12), 12);
        Check.due("the greatest of 12 bits", x.tag(4095, 1), 0);
        Check.due("one above", x.tag(4096, 1), TagReader.BAD);
        Check.due("bits(2) again", x.bits(2), 12);
        Check.due("the greatest of 2 bits", x.tag(3, 1), 0);
        Check.due("one above 2 bits", x.tag(4, 1), TagReader.BAD);
    }

    private static void bitsTakeAllAway() {
        TagReader x = new TagReader();
        x.tag(1, 1);
        x.know(2);
        x.block(1, 3);
        x.tree(0);
        Check.due("refused bits", x.bits(1), TagReader.BAD);
        Check.due("tags stay", x.count(1), 1);
        Check.due("known ones stay", x.count(3), 1);
        Check.due("the blocker stays", x.count(5), 3);
        Check.holds("questions stay", x.count(4) > 0);
        Check.due("bits to the same", x.bits(6), 6);
        Check.due("tags gone", x.count(1), 0);
        Check.due("silent ones gone", x.count(2), 0);
        Check.due("known ones gone", x.count(3), 0);
        Check.due("questions gone", x.count(4), 0);
        Check.due("the blocker gone", x.count(5), TagReader.NONE);
        Check.due("no question", x.heard(0, 0), TagReader.BAD);
        Check.due("no tree", x.grown(0), TagReader.STATE);
        Check.due("nothing to learn of", x.learns(0), TagReader.STATE);
        Check.due("nobody answers", x.ask(0, 0, 0), 0);
        Check.due("the number is free", x.tag(1, 1), 0);
        Check.due("the new one answers", x.of(0, 2), 0);
        Check.due("the known number is free", x.know(2), 1);
    }

    private static void bitsLeaveTheRest() {
        TagReader x = new TagReader();
        Check.tell(x, "frame 5;");
        Check.type(x, "least");
        x.sheet(0, 1, 7);
        x.read(1, 0, 0, 1);
        x.tag(1, 1);
        x.frame(9, 0);
        x.all(0);
        x.bits(4);
        Check.due("rules stay", x.rule(0), 5);
        Check.due("the tape stays", x.count(6), 5);
        Check.due("sheets stay", x.count(7), 7);
        Check.due("torn stays", x.torn(), 1);
        Check.due("the frame stays", x.shown(0), 5);
        Check.due("all stays", x.went(0), 1);
    }

    private static void tagsAsTheyCome() {
        TagReader x = new TagReader();
        for (int i = 0; i < 16; i++) {
            Check.due("tag " + i, x.tag(63 - i, i == 0 ? 1 : 99), i);
        }
        Check.due("the 17th", x.tag(0, 50), TagReader.FULL);
        Check.due("BAD ahead of FULL: the same number", x.tag(63, 50), TagReader.BAD);
        Check.due("BAD ahead of FULL: the strength", x.tag(0, 0), TagReader.BAD);
        Check.due("still 16", x.count(1), 16);
        Check.due("the first", x.of(0, 0), 63);
        Check.due("the last", x.of(15, 0), 48);
    }

    private static void tagsRefused() {
        TagReader x = new TagReader();
        for (int number : new int[] {-1, 64, MIN, MAX}) {
            Check.due("tag(" + number + ", 1)", x.tag(number, 1), TagReader.BAD);
        }
        for (int strength : new int[] {0, 100, -1, MIN, MAX}) {
            Check.due("tag(1, " + strength + ")", x.tag(1, strength), TagReader.BAD);
        }
        Check.due("none came", x.count(1), 0);
        Check.due("the edges", x.tag(0, 99), 0);
        Check.due("the same number, silent or not", x.hush(0, true), 0);
        Check.due("is refused", x.tag(0, 5), TagReader.BAD);
    }

    private static void whatTagsAre() {
        TagReader x = new TagReader();
        x.tag(17, 23);
        x.tag(5, 99);
        Check.due("of(0, 0)", x.of(0, 0), 17);
        Check.due("of(0, 1)", x.of(0, 1), 23);
        Check.due("of(0, 2)", x.of(0, 2), 0);
        Check.due("of(1, 0)", x.of(1, 0), 5);
        Check.due("of(1, 1)", x.of(1, 1), 99);
        x.hush(1, true);
        Check.due("of(1, 2)", x.of(1, 2), 1);
        for (int t : new int[] {-1, 2, 16, MIN, MAX}) {
            Check.due("of(" + t + ", 0)", x.of(t, 0), TagReader.BAD);
        }
        for (int what : new int[] {-1, 3, MIN, MAX}) {
            Check.due("of(0, " + what + ")", x.of(0, what), TagReader.BAD);
        }
    }

    private static void hushed() {
        TagReader x = new TagReader();
        x.tag(3, 1);
        Check.due("hush", x.hush(0, true), 0);
        Check.due("hush again", x.hush(0, true), 1);
        Check.due("does not answer", x.ask(0, 0, 0), 0);
        Check.due("unhush", x.hush(0, false), 1);
        Check.due("unhush again", x.hush(0, false), 0);
        Check.due("answers", x.ask(0, 0, 0), 1);
        for (int t : new int[] {-1, 1, 16, MIN, MAX}) {
            Check.due("hush(" + t + ")", x.hush(t, true), TagReader.BAD);
        }
        Check.due("nobody else is silent", x.count(2), 0);
    }

    private static void woken() {
        TagReader x = new TagReader();
        for (int i = 0; i < 5; i++) {
            x.tag(i, 1);
        }
        x.hush(1, true);
        x.hush(4, true);
        Check.due("wake", x.wake(), 2);
        Check.due("wake again", x.wake(), 0);
        Check.due("none is silent", x.count(2), 0);
        Check.due("all answer", x.ask(0, 0, 0), 5);
    }

    private static void blocked() {
        TagReader x = new TagReader();
        Check.due("all", x.block(0, 0), 64);
        Check.due("bits 0", x.count(5), 0);
        Check.due("half", x.block(1, 1), 32);
        Check.due("one", x.block(63, 6), 1);
        Check.due("seven", x.block(7, 6), 1);
        Check.due("the one answers", x.ask(6, 7, 0), 1);
        Check.due("no other", x.ask(0, 0, 0), 1);
        for (int b : new int[] {-2, 7, MIN, MAX}) {
            Check.due("block(1, " + b + ")", x.block(1, b), TagReader.BAD);
        }
        Check.due("it stays", x.ask(6, 7, 0), 1);
        Check.due("lowest bits", x.block(0b1101, 2), 16);
        Check.due("beneath 01", x.ask(2, 1, 0), 16);
        Check.due("lowest bits below 0", x.block(-1, 3), 8);
        Check.due("beneath 111", x.ask(3, 7, 0), 8);
        Check.due("of no bits nothing is left", x.block(9, 0), 64);
        Check.due("none", x.block(5, -1), 0);
        Check.due("no bits", x.count(5), TagReader.NONE);
        Check.due("nobody", x.ask(0, 0, 0), 0);
    }
}
