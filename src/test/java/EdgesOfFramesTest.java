/** Promises 20 to 24, sentence by sentence: the bounds, the empty and the full, what is refused. */
public final class EdgesOfFramesTest {
    private static final int MIN = Integer.MIN_VALUE;
    private static final int MAX = Integer.MAX_VALUE;

    public static void main(String[] args) {
        slotsOfFramesOfOneToSixtyFour();
        slotsOfNumbersOfNBits();
        sumsThatWrapAround();
        sumsThatJustCarry();
        bitsSixteenToThirty();
        slotRefused();
        framesOfOneToSixtyFour();
        frameOfNobody();
        frameOfSixteen();
        theBlockerDoesNotAnswer();
        frameReadsWhatIsAlone();
        aboveZeroIsNever();
        aboveByJustSoMuch();
        aboveEachOtherOne();
        frameRefused();
        shownOfNone();
        shownSlotsAddUp();
        shownOfTheLatest();
        shownRefused();
        allOfNobody();
        allIsBounded();
        allGrowsFromJustSoMany();
        allGrowsNoFurtherThanMost();
        allShrinksFromJustSoMany();
        allShrinksNoFurtherThanLeast();
        allDividesDown();
        growIsAheadOfShrink();
        seedsWrapAround();
        roundsOneToForty();
        spentLeavesThemSilent();
        theLastFrameIsTheLatest();
        wentOfNone();
        wentOfTheLatest();
        wentRefused();
        Check.finish("EdgesOfFramesTest");
    }

    private static void shownIs(TagReader x, int... want) {
        for (int what = 0; what < 5; what++) {
            Check.due("shown(" + what + ")", x.shown(what), want[what]);
        }
    }

    private static void wentIs(TagReader x, int... want) {
        for (int what = 0; what < 4; what++) {
            Check.due("went(" + what + ")", x.went(what), want[what]);
        }
    }

    /** TAGS of 12 bits, as many as told in each SLOT of a FRAME of as many SLOTS. */
    private static TagReader lying(int seed, int... inside) {
        TagReader x = new TagReader();
        x.bits(12);
        for (int slot = 0; slot < inside.length; slot++) {
            int left = inside[slot];
            for (int number = 0; number < 4096 && left > 0; number++) {
                if (PlainReader.slotOf(number, inside.length, seed) == slot) {
                    Check.holds("a TAG", x.tag(number, 1) >= 0);
                    left--;
                }
            }
        }
        return x;
    }

    private static int[] inTheFirst(int slots, int many) {
        int[] inside = new int[slots];
        inside[0] = many;
        return inside;
    }

    /** "a FRAME of f SLOTS (1 to 64)". */
    private static void slotsOfFramesOfOneToSixtyFour() {
        TagReader x = new TagReader();
        for (int f = 1; f <= 64; f++) {
            for (int number : new int[] {0, 1, 37, 63}) {
                Check.due("slot(" + number + ", " + f + ")", x.slot(number, f, 5), PlainReader.slotOf(number, f, 5));
            }
        }
        Check.due("f 0", x.slot(0, 0, 5), TagReader.BAD);
        Check.due("f 65", x.slot(0, 65, 5), TagReader.BAD);
        Check.due("of one SLOT the first", x.slot(63, 1, 5), 0);
    }

    private static void slotsOfNumbersOfNBits() {
        for (int n = 2; n <= 12; n++) {
            TagReader x = new TagReader();
            x.bits(n);
            int top = (1 << n) - 1;
            Check.due("-1", x.slot(-1, 64, 5), TagReader.BAD);
            Check.due("0", x.slot(0, 64, 5), PlainReader.slotOf(0, 64, 5));
            Check.due("the top", x.slot(top, 64, 5), PlainReader.slotOf(top, 64, 5));
            Check.due("one above", x.slot(top + 1, 64, 5), TagReader.BAD);
        }
    }

    /** "x is the seed and 40503 times its NUMBER, summed (an int)". */
    private static void sumsThatWrapAround() {
        for (int number : new int[] {0, 1, 2, 4094, 4095}) {
            TagReader x = new TagReader();
            x.bits(12);
            int product = 40503 * number;
            int[] seeds = {MAX - product, MAX - product + 1, MAX, MAX - 1, MIN, MIN + 1, -product, -1 - product, 0, -1};
            for (int seed : seeds) {
                for (int f : new int[] {2, 7, 63, 64}) {
                    String call = "slot(" + number + ", " + f + ", " + seed + ")";
                    Check.due(call, x.slot(number, f, seed), PlainReader.slotOf(number, f, seed));
                }
            }
        }
    }

    /** "x times 1103515245 and 12345": the first sum that carries into bit 16, and the last that does not. */
    private static void sumsThatJustCarry() {
        int found = 0;
        for (int seed = 0; seed < 1 << 16; seed++) {
            int low = seed * 1103515245 & 65535;
            if (low == 65535 - 12345 || low == 65536 - 12345) {
                TagReader x = new TagReader();
                Check.due("slot(0, 64, " + seed + ")", x.slot(0, 64, seed), PlainReader.slotOf(0, 64, seed));
                found++;
            }
        }
        Check.due("one of each", found, 2);
    }

    /** "bits 16 to 30 of it modulo f": a carry out of bit 15 counts, bit 31 does not. */
    private static void bitsSixteenToThirty() {
        boolean carried = false;
        boolean high = false;
        for (int i = 0; i < 20; i++) {
            TagReader x = new TagReader();
            for (int seed = i * 50; seed < i * 50 + 50; seed++) {
                int sum = seed * 1103515245 + 12345;
                carried |= (sum & 65535) < 12345;
                high |= sum < 0;
                for (int f : new int[] {64, 63, 33}) {
                    Check.due("slot(0, " + f + ", " + seed + ")", x.slot(0, f, seed), PlainReader.slotOf(0, f, seed));
                }
            }
        }
        Check.holds("a carry was met", carried);
        Check.holds("bit 31 was met", high);
    }

    private static void slotRefused() {
        for (int f : new int[] {0, 65, -1, MIN, MAX}) {
            Twins.refused("slot(0, " + f + ", 0)", x -> x.slot(0, f, 0), TagReader.BAD);
        }
        for (int number : new int[] {-1, 4096, MIN, MAX}) {
            Twins.refused("slot(" + number + ", 8, 0)", x -> x.slot(number, 8, 0), TagReader.BAD);
        }
        Twins.onlyAsks("slot(3, 8, 0)", x -> x.slot(3, 8, 0));
    }

    private static void framesOfOneToSixtyFour() {
        TagReader x = new TagReader();
        for (int f = 1; f <= 64; f++) {
            Check.due("frame(" + f + ")", x.frame(f, f), 0);
            Check.due("SLOTS", x.shown(0), f);
            Check.due("EMPTY ones", x.shown(1), f);
        }
        Check.due("65", x.frame(65, 0), TagReader.BAD);
        Check.due("0", x.frame(0, 0), TagReader.BAD);
        Check.due("the latest stays", x.shown(0), 64);
    }

    private static void frameOfNobody() {
        TagReader x = new TagReader();
        Check.due("no TAGS", x.frame(1, 0), 0);
        shownIs(x, 1, 1, 0, 0, 0);
        x.tag(1, 1);
        x.hush(0, true);
        Check.due("a SILENT one", x.frame(1, 0), 0);
        shownIs(x, 1, 1, 0, 0, 0);
    }

    private static void frameOfSixteen() {
        int[] inside = new int[16];
        java.util.Arrays.fill(inside, 1);
        TagReader x = lying(MAX, inside);
        Check.due("each in its own SLOT", x.frame(16, MAX), 16);
        shownIs(x, 16, 0, 16, 0, 0);
        Check.due("all are SILENT", x.count(2), 16);
        x.wake();
        Check.due("all in one SLOT", x.frame(1, 0), 0);
        shownIs(x, 1, 0, 0, 1, 0);
        Check.due("none is SILENT", x.count(2), 0);
    }

    /** "(A BLOCKER does not answer in FRAMES.)" */
    private static void theBlockerDoesNotAnswer() {
        TagReader x = lying(3, 1, 0, 2);
        x.block(0, 0);
        Check.due("one is read", x.frame(3, 3), 1);
        shownIs(x, 3, 1, 1, 1, 0);
        TagReader y = new TagReader();
        y.block(0, 0);
        Check.due("nobody in ALL", y.all(0), 1);
        Check.due("nobody was read", y.went(2), 0);
    }

    /** "A SLOT with none is EMPTY; with one it is read (SILENT then); with more it CLASHES". */
    private static void frameReadsWhatIsAlone() {
        TagReader x = lying(-9, 0, 1, 2, 3, 1);
        Check.due("two are read", x.frame(5, -9), 2);
        shownIs(x, 5, 1, 2, 2, 0);
        int[] silent = {1, 0, 0, 0, 0, 0, 1};
        for (int t = 0; t < silent.length; t++) {
            Check.due("TAG " + t, x.of(t, 2), silent[t]);
        }
        Check.due("they do not answer again", x.frame(5, -9), 0);
        shownIs(x, 5, 3, 0, 2, 0);
    }

    private static TagReader strong(String text, int... strengths) {
        TagReader x = new TagReader();
        for (int i = 0; i < strengths.length; i++) {
            x.tag(i, strengths[i]);
        }
        Check.tell(x, text);
        return x;
    }

    /** "(0: never; ..)". */
    private static void aboveZeroIsNever() {
        TagReader x = new TagReader();
        x.tag(0, 1);
        x.tag(1, 99);
        Check.due("0 at first", x.frame(1, 0), 0);
        shownIs(x, 1, 0, 0, 1, 0);
        TagReader y = strong("above 0;", 99, 1);
        Check.due("0 as told", y.frame(1, 0), 0);
        shownIs(y, 1, 0, 0, 1, 0);
        TagReader z = strong("above 0;", 5, 5);
        Check.due("two alike", z.frame(1, 0), 0);
        shownIs(z, 1, 0, 0, 1, 0);
    }

    /** "if its STRENGTH is that many more at least". */
    private static void aboveByJustSoMuch() {
        for (int above : new int[] {1, 2, 50, 97, 98}) {
            TagReader x = strong("above " + above + ";", 1, 1 + above);
            Check.due("just " + above, x.frame(1, 0), 1);
            shownIs(x, 1, 0, 0, 0, 1);
            Check.due("the strong one", x.of(1, 2), 1);
            Check.due("not the weak one", x.of(0, 2), 0);
            TagReader y = strong("above " + above + ";", above, 1);
            Check.due("one less than " + above, y.frame(1, 0), 0);
            shownIs(y, 1, 0, 0, 1, 0);
        }
        TagReader x = strong("above 99;", 99, 1);
        Check.due("99 more can't be", x.frame(1, 0), 0);
        shownIs(x, 1, 0, 0, 1, 0);
        Check.due("alone it is read", strong("above 99;", 1).frame(1, 0), 1);
    }

    /** "than each other one's". */
    private static void aboveEachOtherOne() {
        int[][] orders = {{50, 45, 1}, {50, 1, 45}, {45, 50, 1}, {1, 50, 45}, {45, 1, 50}, {1, 45, 50}};
        for (int[] order : orders) {
            TagReader x = strong("above 5;", order);
            Check.due("5 above the second", x.frame(1, 0), 1);
            for (int t = 0; t < 3; t++) {
                Check.due("the strongest alone", x.of(t, 2), order[t] == 50 ? 1 : 0);
            }
            TagReader y = strong("above 6;", order);
            Check.due("not 6", y.frame(1, 0), 0);
            shownIs(y, 1, 0, 0, 1, 0);
            y.hush(order[0] == 45 ? 0 : order[1] == 45 ? 1 : 2, true);
            Check.due("a SILENT one is no other", y.frame(1, 0), 1);
        }
        Check.due("two strongest alike", strong("above 1;", 50, 50, 1).frame(1, 0), 0);
        Check.due("two weakest alike", strong("above 1;", 50, 49, 49).frame(1, 0), 1);
        TagReader x = new TagReader();
        for (int i = 0; i < 16; i++) {
            x.tag(i, 2 + 3 * i);
        }
        Check.tell(x, "above 3;");
        for (int left = 16; left > 0; left--) {
            Check.due("the strongest of " + left, x.frame(1, 0), 1);
            Check.due("is SILENT", x.of(left - 1, 2), 1);
        }
        Check.due("none is left", x.frame(1, 0), 0);
    }

    private static void frameRefused() {
        for (int f : new int[] {0, 65, -1, MIN, MAX}) {
            Twins.refused("frame(" + f + ", 0)", x -> x.frame(f, 0), TagReader.BAD);
        }
    }

    private static void shownOfNone() {
        for (int what = 0; what < 5; what++) {
            TagReader x = new TagReader();
            Check.due("none", x.shown(what), TagReader.STATE);
            x.frame(0, 0);
            Check.due("none that was not BAD", x.shown(what), TagReader.STATE);
        }
    }

    private static void shownSlotsAddUp() {
        for (int seed = 0; seed < 60; seed++) {
            TagReader x = new TagReader();
            for (int i = 0; i < 16; i++) {
                x.tag(i * 4, 1 + i * seed % 99);
            }
            Check.tell(x, "above 20;");
            int f = 1 + seed;
            int read = x.frame(f, seed);
            Check.due("SLOTS", x.shown(1) + x.shown(2) + x.shown(3) + x.shown(4), f);
            Check.due("read", x.shown(2) + x.shown(4), read);
            Check.due("SILENT", x.count(2), read);
        }
    }

    private static void shownOfTheLatest() {
        TagReader x = lying(0, 1, 0);
        x.frame(2, 0);
        shownIs(x, 2, 1, 1, 0, 0);
        x.frame(2, 0);
        shownIs(x, 2, 2, 0, 0, 0);
        x.bits(3);
        shownIs(x, 2, 2, 0, 0, 0);
        x.wake();
        x.tree(0);
        shownIs(x, 2, 2, 0, 0, 0);
    }

    private static void shownRefused() {
        for (int what : new int[] {-1, 5, MIN, MAX}) {
            Twins.refused("shown(" + what + ")", x -> x.shown(what), TagReader.BAD);
        }
        Twins.refused("STATE", x -> { }, x -> x.shown(4), TagReader.STATE);
        Twins.onlyAsks("shown(4)", x -> x.shown(4));
    }

    /** "until in one no SLOT has a TAG". */
    private static void allOfNobody() {
        TagReader x = new TagReader();
        Check.due("one FRAME", x.all(0), 1);
        wentIs(x, 1, 8, 0, 8);
        x.tag(1, 1);
        Check.due("two", x.all(0), 2);
        Check.due("one was read", x.went(2), 1);
        Check.due("all are SILENT", x.all(0), 1);
        wentIs(x, 1, 8, 0, 8);
    }

    /** "least, most: a frame has no fewer, no more": the first one, too. */
    private static void allIsBounded() {
        String[] texts = {"frame 1;", "frame 64;", "frame 8; least 8;", "frame 8; least 9;", "frame 8; most 8;",
            "frame 8; most 7;", "frame 1; least 64;", "frame 64; most 1;", "frame 9; least 3; most 3;"};
        int[] want = {1, 64, 8, 9, 8, 7, 64, 1, 3};
        for (int i = 0; i < texts.length; i++) {
            TagReader x = new TagReader();
            Check.tell(x, texts[i]);
            Check.due(texts[i], x.all(7), 1);
            wentIs(x, 1, want[i], 0, want[i]);
        }
    }

    /** The SLOTS of the second FRAME, behind one with as many TAGS in its SLOTS as told. */
    private static int second(String text, int... inside) {
        TagReader x = lying(7, inside);
        Check.tell(x, "frame " + inside.length + "; rounds 2; " + text);
        x.all(7);
        Check.due("two FRAMES", x.went(0), 2);
        Check.due("the first", x.went(1) - x.went(3), inside.length);
        return x.went(3);
    }

    /** "if of 100 SLOTS that were not empty so many or more clashed". */
    private static void allGrowsFromJustSoMany() {
        Check.due("1 of 1 is 100", second("grow 100 200;", 2), 2);
        Check.due("1 of 2 is 50", second("grow 50 200;", 2, 1), 4);
        Check.due("1 of 2 is no 51", second("grow 51 200;", 2, 1), 2);
        Check.due("EMPTY ones do not count", second("grow 50 200; shrink 100 10;", 2, 1, 0, 0), 8);
        Check.due("1 of 3 is 33", second("grow 33 200;", 2, 1, 1), 6);
        Check.due("1 of 3 is no 34", second("grow 34 200;", 2, 1, 1), 3);
        Check.due("2 of 3 is 66", second("grow 66 200;", 2, 1, 2), 6);
        Check.due("2 of 3 is no 67", second("grow 67 200;", 2, 1, 2), 3);
        Check.due("3 of 5 is 60, as at first", second("", 2, 2, 2, 1, 1), 10);
        Check.due("2 of 4 is not", second("", 2, 2, 1, 1), 4);
        Check.due("none clashed", second("grow 1 200; shrink 100 10;", 1, 1), 2);
        Check.due("1 of 14 is 7", second("grow 7 200;", 2, 1, 1, 1, 1, 1, 1, 1, 1, 1, 1, 1, 1, 1), 28);
        Check.due("1 of 14 is no 8", second("grow 8 200;", 2, 1, 1, 1, 1, 1, 1, 1, 1, 1, 1, 1, 1, 1), 14);
    }

    private static void allGrowsNoFurtherThanMost() {
        Check.due("4 times 16", second("grow 1 400;", inTheFirst(16, 2)), 64);
        Check.due("4 times 17", second("grow 1 400;", inTheFirst(17, 2)), 64);
        Check.due("4 times 64", second("grow 1 400;", inTheFirst(64, 2)), 64);
        Check.due("most is met", second("grow 1 400; most 8;", inTheFirst(2, 2)), 8);
        Check.due("most is less", second("grow 1 400; most 7;", inTheFirst(2, 2)), 7);
        Check.due("most is as it was", second("grow 1 400; most 2;", inTheFirst(2, 2)), 2);
        Check.due("as great again", second("grow 1 100; shrink 1 10;", inTheFirst(10, 2)), 10);
    }

    /** "if of 100 SLOTS so many or more were empty". */
    private static void allShrinksFromJustSoMany() {
        Check.due("1 of 2 is 50", second("shrink 50 50;", 1, 0), 1);
        Check.due("1 of 2 is no 51", second("shrink 51 50;", 1, 0), 2);
        Check.due("1 of 3 is 33", second("shrink 33 40;", 1, 1, 0), 1);
        Check.due("1 of 3 is no 34", second("shrink 34 40;", 1, 1, 0), 3);
        Check.due("3 of 5 is 60, as at first", second("", 1, 1, 0, 0, 0), 2);
        Check.due("2 of 4 is not", second("", 1, 1, 0, 0), 4);
        Check.due("63 of 64 is 98", second("shrink 98 50;", inTheFirst(64, 1)), 32);
        Check.due("63 of 64 is no 99", second("shrink 99 50;", inTheFirst(64, 1)), 64);
        Check.due("none is EMPTY", second("shrink 1 10;", 1, 1), 2);
    }

    private static void allShrinksNoFurtherThanLeast() {
        Check.due("a tenth of 64", second("shrink 1 10;", inTheFirst(64, 1)), 6);
        Check.due("a tenth of 9 is none: 1 at least", second("shrink 1 10;", inTheFirst(9, 1)), 1);
        Check.due("least is met", second("shrink 1 50; least 5;", inTheFirst(10, 1)), 5);
        Check.due("least is more", second("shrink 1 50; least 6;", inTheFirst(10, 1)), 6);
        Check.due("least is as it was", second("shrink 1 50; least 10;", inTheFirst(10, 1)), 10);
        Check.due("as great again", second("shrink 1 100;", inTheFirst(10, 1)), 10);
    }

    /** "divided down". */
    private static void allDividesDown() {
        Check.due("1.99 of 1", second("grow 100 199;", 2), 1);
        Check.due("1.5 of 3", second("grow 1 150;", 2, 0, 0), 4);
        Check.due("3.99 of 3", second("grow 1 399;", 2, 0, 0), 11);
        Check.due("0.5 of 3", second("shrink 1 50;", 1, 0, 0), 1);
        Check.due("0.99 of 3", second("shrink 1 99;", 1, 0, 0), 2);
    }

    private static void growIsAheadOfShrink() {
        Check.due("both fit", second("grow 50 200; shrink 50 50;", 2, 1, 0, 0), 8);
        Check.due("shrink alone fits", second("grow 51 200; shrink 50 50;", 2, 1, 0, 0), 2);
        Check.due("neither fits", second("grow 51 200; shrink 51 50;", 2, 1, 0, 0), 4);
    }

    /** "FRAMES with seeds s, s and 1, ..": behind the greatest int comes the least. */
    private static void seedsWrapAround() {
        for (int seed : new int[] {MAX, MAX - 1, MIN, -1, 0}) {
            TagReader x = new TagReader();
            TagReader y = new TagReader();
            for (int i = 0; i < 16; i++) {
                x.tag(4 * i, 1);
                y.tag(4 * i, 1);
            }
            Check.tell(x, "frame 9; least 9; most 9; rounds 40;");
            int frames = x.all(seed);
            int read = 0;
            for (int i = 0; i < frames; i++) {
                read += y.frame(9, seed + i);
                Check.holds("EMPTY at the end alone", y.shown(1) == 9 == (i == frames - 1));
            }
            wentIs(x, frames, 9 * frames, read, 9);
            Check.due("all 16", read, 16);
        }
    }

    /** "rounds: frames at most (1 to 40; 20)"; "SPENT: in rounds frames not". */
    private static void roundsOneToForty() {
        int[] rounds = {1, 2, 20, 39, 40};
        for (int most : rounds) {
            TagReader x = strong("frame 1; most 1; rounds " + most + ";", 5, 5);
            Check.due("two that never part", x.all(0), TagReader.SPENT);
            wentIs(x, most, most, 0, 1);
        }
        TagReader x = strong("frame 1; most 1;", 5, 5);
        Check.due("at first", x.all(0), TagReader.SPENT);
        wentIs(x, 20, 20, 0, 1);
        int[] each = {1, 2, 3, 4, 5, 6, 7, 8, 9, 10, 11, 12, 13, 14, 15, 16};
        TagReader y = strong("frame 1; most 1; above 1; rounds 17;", each);
        Check.due("the 17th is the EMPTY one", y.all(0), 17);
        wentIs(y, 17, 17, 16, 1);
        TagReader z = strong("frame 1; most 1; above 1; rounds 16;", each);
        Check.due("it did not come", z.all(0), TagReader.SPENT);
        wentIs(z, 16, 16, 16, 1);
    }

    /** "(those that were read stay SILENT)". */
    private static void spentLeavesThemSilent() {
        TagReader x = strong("frame 1; most 1; above 9; rounds 3;", 50, 50, 99, 70);
        Check.due("SPENT", x.all(0), TagReader.SPENT);
        wentIs(x, 3, 3, 2, 1);
        int[] silent = {0, 0, 1, 1};
        for (int t = 0; t < 4; t++) {
            Check.due("TAG " + t, x.of(t, 2), silent[t]);
        }
    }

    private static void theLastFrameIsTheLatest() {
        TagReader x = strong("frame 1; most 1; above 9; rounds 1;", 50, 99);
        x.all(0);
        shownIs(x, 1, 0, 0, 0, 1);
        x.all(0);
        shownIs(x, 1, 0, 1, 0, 0);
        x.all(0);
        shownIs(x, 1, 1, 0, 0, 0);
    }

    private static void wentOfNone() {
        for (int what = 0; what < 4; what++) {
            TagReader x = new TagReader();
            Check.due("none", x.went(what), TagReader.STATE);
            x.frame(8, 0);
            Check.due("a FRAME is no ALL", x.went(what), TagReader.STATE);
        }
    }

    /** "Of the latest ALL (SPENT or not)". */
    private static void wentOfTheLatest() {
        TagReader x = strong("frame 3; least 3; most 3; above 1; rounds 1;", 1);
        Check.due("SPENT", x.all(0), TagReader.SPENT);
        wentIs(x, 1, 3, 1, 3);
        Check.due("not SPENT", x.all(0), 1);
        wentIs(x, 1, 3, 0, 3);
        x.frame(5, 0);
        x.bits(4);
        x.rules();
        wentIs(x, 1, 3, 0, 3);
    }

    private static void wentRefused() {
        for (int what : new int[] {-1, 4, MIN, MAX}) {
            Twins.refused("went(" + what + ")", x -> x.went(what), TagReader.BAD);
        }
        Twins.refused("STATE", x -> { }, x -> x.went(3), TagReader.STATE);
        Twins.onlyAsks("went(3)", x -> x.went(3));
    }
}
