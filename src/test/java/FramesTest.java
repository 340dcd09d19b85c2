/** Promises 20 to 24. */
public final class FramesTest {
    private static final int MIN = Integer.MIN_VALUE;
    private static final int MAX = Integer.MAX_VALUE;

    public static void main(String[] args) {
        slots();
        frames();
        framesWithOneAbove();
        framesWrongly();
        allInOneFrame();
        allByTheRules();
        allSpent();
        wentWrongly();
        Check.finish("FramesTest");
    }

    private static void slots() {
        int[] seeds = {0, 1, -1, 7, 12345, -99999, MIN, MAX};
        for (int seed : seeds) {
            TagReader x = new TagReader();
            x.bits(12);
            for (int f = 1; f <= 64; f += 3) {
                for (int number = 0; number < 4096; number += 455) {
                    String call = "slot(" + number + ", " + f + ", " + seed + ")";
                    Check.due(call, x.slot(number, f, seed), PlainReader.slotOf(number, f, seed));
                }
            }
        }
        // Enough seeds for every sum of the lowest 16 bits, so that each carry is met.
        for (int high = 0; high < 1 << 16; high += 256) {
            TagReader x = new TagReader();
            for (int seed = high; seed < high + 256; seed++) {
                Check.due("slot(0, 64, " + seed + ")", x.slot(0, 64, seed), PlainReader.slotOf(0, 64, seed));
            }
        }
        TagReader x = new TagReader();
        x.bits(12);
        Check.due("f 0", x.slot(0, 0, 0), TagReader.BAD);
        Check.due("f 65", x.slot(0, 65, 0), TagReader.BAD);
        Check.due("f lowest", x.slot(0, MIN, 0), TagReader.BAD);
        Check.due("number -1", x.slot(-1, 8, 0), TagReader.BAD);
        Check.due("number 4096", x.slot(4096, 8, 0), TagReader.BAD);
        x.bits(6);
        Check.due("number 64 of 6 bits", x.slot(64, 8, 0), TagReader.BAD);
    }

    private static void shownIs(TagReader x, int... want) {
        for (int what = 0; what < want.length; what++) {
            Check.due("shown(" + what + ")", x.shown(what), want[what]);
        }
    }

    /** A number whose SLOT is the one told, as the many-th such one. */
    private static int numberIn(TagReader x, int slot, int f, int seed, int many) {
        int left = many;
        for (int number = 0; number < 1 << x.count(0); number++) {
            if (x.slot(number, f, seed) == slot && left-- == 0) {
                return number;
            }
        }
        return -1;
    }

    private static void frames() {
        TagReader x = new TagReader();
        x.block(0, 0);
        Check.due("nobody, and no blocker", x.frame(5, 3), 0);
        shownIs(x, 5, 5, 0, 0, 0);
        x.tag(numberIn(x, 0, 4, 3, 0), 99);
        x.tag(numberIn(x, 2, 4, 3, 0), 1);
        x.tag(numberIn(x, 2, 4, 3, 1), 99);
        Check.due("one alone, two that clash", x.frame(4, 3), 1);
        shownIs(x, 4, 2, 1, 1, 0);
        Check.due("the one is silent", x.of(0, 2), 1);
        Check.due("the two are not", x.count(2), 1);
        Check.due("the silent one does not answer", x.frame(4, 3), 0);
        shownIs(x, 4, 3, 0, 1, 0);
        x.hush(1, true);
        Check.due("one of the two is left", x.frame(4, 3), 1);
        shownIs(x, 4, 3, 1, 0, 0);
        Check.due("all are silent", x.count(2), 3);
        x.wake();
        Check.due("all in one slot", x.frame(1, 0), 0);
        shownIs(x, 1, 0, 0, 1, 0);
        Check.due("the greatest frame", x.frame(64, MAX) >= 0 ? 1 : 0, 1);
        Check.due("its slots", x.shown(0), 64);
    }

    private static void framesWithOneAbove() {
        TagReader x = new TagReader();
        x.tag(1, 50);
        x.tag(2, 41);
        x.tag(3, 41);
        Check.due("never at first", x.frame(1, 0), 0);
        Check.tell(x, "above 10;");
        Check.due("nine more are too few", x.frame(1, 0), 0);
        shownIs(x, 1, 0, 0, 1, 0);
        Check.tell(x, "above 9;");
        Check.due("nine more are enough", x.frame(1, 0), 1);
        shownIs(x, 1, 0, 0, 0, 1);
        Check.due("the strong one is read", x.of(0, 2), 1);
        Check.due("no other", x.count(2), 1);
        Check.tell(x, "above 1;");
        Check.due("two alike", x.frame(1, 0), 0);
        x.tag(4, 99);
        x.tag(5, 1);
        Check.due("the last but one is above", x.frame(1, 0), 1);
        Check.due("it is", x.of(3, 2), 1);
        x.hush(1, true);
        Check.due("a silent one is no other", x.frame(1, 0), 1);
        Check.due("third", x.of(2, 2), 1);
        Check.due("alone", x.frame(1, 0), 1);
        shownIs(x, 1, 0, 1, 0, 0);
        x.wake();
        Check.tell(x, "above 0;");
        Check.due("0: never", x.frame(1, 0), 0);
        TagReader y = new TagReader();
        y.tag(1, 1);
        y.tag(2, 99);
        y.tag(3, 50);
        Check.tell(y, "above 49;");
        Check.due("than each other one, whichever came first", y.frame(1, 0), 1);
        Check.due("the second", y.of(1, 2), 1);
        Check.tell(y, "above 50;");
        y.wake();
        Check.due("one more is too many", y.frame(1, 0), 0);
    }

    private static void framesWrongly() {
        TagReader x = new TagReader();
        x.tag(1, 1);
        for (int f : new int[] {0, 65, -1, MIN, MAX}) {
            Check.due("frame(" + f + ")", x.frame(f, 0), TagReader.BAD);
        }
        Check.due("nobody is silent", x.count(2), 0);
        for (int what = 0; what < 5; what++) {
            Check.due("no frame yet", x.shown(what), TagReader.STATE);
        }
        for (int what : new int[] {-1, 5, MIN, MAX}) {
            Check.due("BAD ahead of STATE", x.shown(what), TagReader.BAD);
        }
        x.frame(3, 0);
        x.frame(0, 0);
        Check.due("the latest stays", x.shown(0), 3);
    }

    private static void wentIs(TagReader x, int... want) {
        for (int what = 0; what < want.length; what++) {
            Check.due("went(" + what + ")", x.went(what), want[what]);
        }
    }

    private static void allInOneFrame() {
        TagReader x = new TagReader();
        Check.due("nobody", x.all(0), 1);
        wentIs(x, 1, 8, 0, 8);
        shownIs(x, 8, 8, 0, 0, 0);
        Check.tell(x, "frame 8; least 20;");
        Check.due("no fewer", x.all(0), 1);
        wentIs(x, 1, 20, 0, 20);
        Check.tell(x, "frame 8; most 5;");
        Check.due("no more", x.all(0), 1);
        wentIs(x, 1, 5, 0, 5);
        x.tag(3, 1);
        Check.tell(x, "frame 8; shrink 100 10;");
        Check.due("one tag, then an empty frame", x.all(0), 2);
        wentIs(x, 2, 16, 1, 8);
        Check.due("it is silent", x.count(2), 1);
    }

    private static void allByTheRules() {
        TagReader x = new TagReader();
        // Of three the strongest is above each time; what is left is empty in the fourth frame.
        x.tag(1, 90);
        x.tag(2, 60);
        x.tag(3, 30);
        Check.tell(x, "frame 1; most 1; above 30;");
        Check.due("one by one", x.all(MAX), 4);
        wentIs(x, 4, 4, 3, 1);
        shownIs(x, 1, 1, 0, 0, 0);
        growingFrames();
        shrinkingFrames();
    }

    private static void growingFrames() {
        TagReader x = new TagReader();
        x.tag(1, 1);
        x.tag(2, 1);
        Check.tell(x, "frame 1; grow 100 350; rounds 2;");
        x.all(0);
        wentIs(x, 2, 1 + 3, x.went(2), 3);
        x.wake();
        Check.tell(x, "frame 1; grow 100 400; shrink 1 10; rounds 2; most 3;");
        x.all(0);
        Check.due("grow ahead of shrink, within most", x.went(3), 3);
        x.wake();
        Check.tell(x, "frame 1; grow 100 199; rounds 1;");
        Check.due("one round", x.all(0), TagReader.SPENT);
        wentIs(x, 1, 1, 0, 1);
        // Three slots, not empty two, one of them clashed: 50 of 100.
        TagReader y = new TagReader();
        y.tag(numberIn(y, 0, 3, 9, 0), 1);
        y.tag(numberIn(y, 1, 3, 9, 0), 1);
        y.tag(numberIn(y, 1, 3, 9, 1), 1);
        Check.tell(y, "frame 3; grow 50 200; shrink 34 10; rounds 2;");
        y.all(9);
        Check.due("50 of 100 are enough", y.went(1), 3 + 6);
        y.wake();
        Check.tell(y, "frame 3; grow 51 200; shrink 34 10; rounds 2;");
        y.all(9);
        Check.due("51 are not, nor are 34 empty", y.went(1), 3 + 3);
        y.wake();
        Check.tell(y, "frame 3; grow 51 200; shrink 33 67; rounds 2;");
        y.all(9);
        Check.due("33 of 100 are empty", y.went(1), 3 + 2);
        y.wake();
        Check.tell(y, "frame 3; grow 50 100; shrink 1 10; rounds 2;");
        y.all(9);
        Check.due("grow to the same is ahead of shrink", y.went(1), 3 + 3);
        y.wake();
        y.tag(numberIn(y, 2, 3, 9, 0), 1);
        y.tag(numberIn(y, 2, 3, 9, 1), 1);
        Check.tell(y, "frame 3; grow 67 200; rounds 2;");
        y.all(9);
        Check.due("two of three are no 67 of 100", y.went(1), 3 + 3);
        y.wake();
        Check.tell(y, "frame 3; grow 66 200; rounds 2;");
        y.all(9);
        Check.due("but 66", y.went(1), 3 + 6);
    }

    private static void shrinkingFrames() {
        TagReader x = new TagReader();
        x.tag(1, 1);
        Check.tell(x, "frame 64; shrink 98 50; rounds 1;");
        Check.due("read, but the empty frame did not come", x.all(0), TagReader.SPENT);
        x.wake();
        Check.tell(x, "frame 64; shrink 98 50;");
        Check.due("63 of 64", x.all(0), 2);
        wentIs(x, 2, 64 + 32, 1, 32);
        x.wake();
        Check.tell(x, "frame 64; shrink 99 50;");
        Check.due("98.4 of 100 are no 99", x.all(0), 2);
        wentIs(x, 2, 64 + 64, 1, 64);
        x.wake();
        Check.tell(x, "frame 64; shrink 98 10; least 9;");
        Check.due("within least", x.all(0), 2);
        wentIs(x, 2, 64 + 9, 1, 9);
        x.wake();
        Check.tell(x, "frame 5; shrink 80 10;");
        Check.due("never below one slot", x.all(0), 2);
        wentIs(x, 2, 5 + 1, 1, 1);
    }

    private static void allSpent() {
        TagReader x = new TagReader();
        x.tag(1, 5);
        x.tag(2, 5);
        x.tag(3, 99);
        Check.tell(x, "frame 1; most 1; above 9; rounds 40;");
        Check.due("two never part", x.all(-5), TagReader.SPENT);
        wentIs(x, 40, 40, 1, 1);
        Check.due("the strong one stays silent", x.of(2, 2), 1);
        Check.due("the others are not", x.count(2), 1);
        Check.due("the latest frame is shown", x.shown(3), 1);
        Check.tell(x, "frame 1; most 1; rounds 1;");
        x.hush(0, true);
        x.hush(1, true);
        Check.due("the last round may be the empty one", x.all(0), 1);
        seedsOneBehindAnother();
    }

    private static void seedsOneBehindAnother() {
        for (int seed : new int[] {4, -3, MAX, MIN}) {
            TagReader x = crowded();
            TagReader y = crowded();
            Check.tell(x, "frame 7; least 7; most 7; rounds 3;");
            x.all(seed);
            int read = y.frame(7, seed);
            int frames = 1;
            while (frames < 3 && y.shown(1) != 7) {
                read += y.frame(7, seed + frames);
                frames++;
            }
            wentIs(x, frames, 7 * frames, read, 7);
            for (int t = 0; t < 16; t++) {
                Check.due("silent " + t, x.of(t, 2), y.of(t, 2));
            }
        }
    }

    private static TagReader crowded() {
        TagReader x = new TagReader();
        for (int t = 0; t < 16; t++) {
            x.tag(t * 3, 1 + t);
        }
        return x;
    }

    private static void wentWrongly() {
        TagReader x = new TagReader();
        x.frame(1, 1);
        for (int what = 0; what < 4; what++) {
            Check.due("no all yet", x.went(what), TagReader.STATE);
        }
        for (int what : new int[] {-1, 4, MIN, MAX}) {
            Check.due("BAD ahead of STATE", x.went(what), TagReader.BAD);
        }
        x.all(1);
        Check.due("BAD then too", x.went(4), TagReader.BAD);
    }
}
