/** Promises 30 to 34, sentence by sentence: the bounds, the empty and the full, what is refused. */
public final class EdgesOfMissingTest {
    private static final int MIN = Integer.MIN_VALUE;
    private static final int MAX = Integer.MAX_VALUE;

    public static void main(String[] args) {
        numbersHaveBits();
        sixteenKnown();
        oneThatIsKnown();
        knowRefused();
        forgottenNoneAndAll();
        missingOfNobody();
        missingBitsAsTheyCame();
        framesOfOneToThirty();
        slotsAreBitsOfTheFrame();
        missingWithSeedsAtTheirEnds();
        missingRefused();
        seenOfNobody();
        seenAlone();
        seenOfOneToSixtyFour();
        seenRefused();
        seedOfNobody();
        seedOfSeveralTheLeast();
        aHundredSeeds();
        seedsAtTheirEnds();
        seedRefused();
        Check.finish("EdgesOfMissingTest");
    }

    private static TagReader withKnown(int... numbers) {
        TagReader x = new TagReader();
        x.bits(12);
        for (int number : numbers) {
            x.know(number);
        }
        return x;
    }

    private static PlainReader plainKnown(int... numbers) {
        PlainReader plain = new PlainReader();
        plain.bits(12);
        for (int number : numbers) {
            plain.know(number);
        }
        return plain;
    }

    private static final int[] SIXTEEN = {0, 4095, 1, 4094, 100, 101, 102, 2048, 2047, 7, 3333, 3334, 12, 999, 50, 51};

    private static void numbersHaveBits() {
        for (int n = 2; n <= 12; n++) {
            TagReader x = new TagReader();
            x.bits(n);
            int top = (1 << n) - 1;
            Check.due("-1 of " + n, x.know(-1), TagReader.BAD);
            Check.due("one above the top of " + n, x.know(top + 1), TagReader.BAD);
            Check.due("none came", x.count(3), 0);
            Check.due("0 of " + n, x.know(0), 1);
            Check.due("the top of " + n, x.know(top), 2);
        }
    }

    /** "KNOWN NUMBERS (16; ..)"; "how many there are"; "FULL". */
    private static void sixteenKnown() {
        TagReader x = new TagReader();
        for (int i = 1; i <= 16; i++) {
            Check.due("the " + i + "th", x.know(64 - i), i);
        }
        Check.due("the 17th", x.know(0), TagReader.FULL);
        Check.due("16", x.count(3), 16);
        Check.due("BAD ahead of FULL: one that is", x.know(63), TagReader.BAD);
        Check.due("BAD ahead of FULL: no NUMBER", x.know(64), TagReader.BAD);
        Check.due("BAD ahead of FULL: below 0", x.know(-1), TagReader.BAD);
    }

    /** "BAD: also one that is"; TAGS are another matter. */
    private static void oneThatIsKnown() {
        TagReader x = new TagReader();
        x.tag(5, 1);
        Check.due("a TAG's", x.know(5), 1);
        Check.due("again", x.know(5), TagReader.BAD);
        Check.due("another", x.know(6), 2);
        Check.due("the last again", x.know(6), TagReader.BAD);
        Check.due("a TAG with a KNOWN NUMBER", x.tag(6, 1), 1);
    }

    private static void knowRefused() {
        for (int number : new int[] {-1, 4096, MIN, MAX}) {
            Twins.refused("know(" + number + ")", x -> x.know(number), TagReader.BAD);
        }
        Twins.refused("know(32) of 5 bits", Twins::makeRich, x -> x.know(32), TagReader.BAD);
        Twins.refused("one that is", Twins::makeRich, x -> x.know(30), TagReader.BAD);
        Twins.refused("the 17th", Twins::makeFull, x -> x.know(1), TagReader.FULL);
    }

    private static void forgottenNoneAndAll() {
        TagReader x = withKnown();
        Check.due("none", x.forget(), 0);
        TagReader y = withKnown(SIXTEEN);
        y.tag(1, 1);
        Check.due("all", y.forget(), 16);
        Check.due("none is left", y.forget(), 0);
        Check.due("none is counted", y.count(3), 0);
        Check.due("TAGS stay", y.count(1), 1);
        for (int i = 0; i < 16; i++) {
            Check.due("each can be known again", y.know(SIXTEEN[15 - i]), i + 1);
        }
    }

    private static void missingOfNobody() {
        TagReader x = withKnown();
        Check.due("none is KNOWN", x.missing(8, 0, 0), 0);
        x.tag(1, 1);
        Check.due("a TAG is not KNOWN", x.missing(8, 0, 0), 0);
    }

    /** "KNOWN ones that are surely missing (bits, as they came)". */
    private static void missingBitsAsTheyCame() {
        TagReader x = withKnown(SIXTEEN);
        Check.due("nobody answered", x.missing(30, 5, 0), 65535);
        Check.due("all answered", x.missing(30, 5, (1 << 30) - 1), 0);
        for (int i = 0; i < 16; i++) {
            int slot = x.slot(SIXTEEN[i], 30, 5);
            Check.due("its SLOT alone was EMPTY", x.missing(30, 5, (1 << 30) - 1 ^ 1 << slot) >> i & 1, 1);
            Check.due("its SLOT alone was not", x.missing(30, 5, 1 << slot) >> i & 1, 0);
        }
    }

    /** "a FRAME of f SLOTS (1 to 30)". */
    private static void framesOfOneToThirty() {
        TagReader x = withKnown(SIXTEEN);
        PlainReader plain = plainKnown(SIXTEEN);
        for (int f = 1; f <= 30; f++) {
            int every = (1 << f) - 1;
            for (int slots : new int[] {0, 1, every, every & 0x15555555, 1 << f - 1}) {
                Check.due("missing(" + f + ")", x.missing(f, 9, slots), plain.missing(f, 9, slots));
            }
        }
        Check.due("0", x.missing(0, 9, 0), TagReader.BAD);
        Check.due("31", x.missing(31, 9, 0), TagReader.BAD);
    }

    /** "in these SLOTS (bits)". */
    private static void slotsAreBitsOfTheFrame() {
        TagReader x = withKnown(3);
        for (int f = 1; f <= 30; f++) {
            Check.holds("all of them", x.missing(f, 0, (1 << f) - 1) == 0);
            Check.due("one beyond", x.missing(f, 0, 1 << f), TagReader.BAD);
            Check.due("one beyond, too", x.missing(f, 0, 1 << f | 1), TagReader.BAD);
            Check.due("below 0", x.missing(f, 0, -1), TagReader.BAD);
            Check.due("the least int", x.missing(f, 0, MIN), TagReader.BAD);
        }
        Check.due("the greatest int of 30", x.missing(30, 0, MAX), TagReader.BAD);
    }

    private static void missingWithSeedsAtTheirEnds() {
        TagReader x = withKnown(SIXTEEN);
        PlainReader plain = plainKnown(SIXTEEN);
        for (int seed : new int[] {MIN, MIN + 1, -1, 0, 1, MAX - 1, MAX}) {
            Check.due("missing", x.missing(17, seed, 0x5555), plain.missing(17, seed, 0x5555));
            Check.due("seen", x.seen(17, seed), plain.seen(17, seed));
            Check.due("seen of 64", x.seen(64, seed), plain.seen(64, seed));
        }
    }

    private static void missingRefused() {
        for (int f : new int[] {0, 31, 32, 33, 64, -1, MIN, MAX}) {
            Twins.refused("missing(" + f + ", 0, 0)", x -> x.missing(f, 0, 0), TagReader.BAD);
        }
        for (int slots : new int[] {-1, 256, MIN, MAX}) {
            Twins.refused("missing(8, 0, " + slots + ")", x -> x.missing(8, 0, slots), TagReader.BAD);
        }
        Twins.onlyAsks("missing(8, 0, 255)", x -> x.missing(8, 0, 255));
        Twins.onlyAsks("missing(30, 0, 0)", x -> x.missing(30, 0, 0));
    }

    private static void seenOfNobody() {
        TagReader x = withKnown();
        x.tag(1, 1);
        Check.due("none is KNOWN", x.seen(8, 0), 0);
        Check.due("one SLOT", x.seen(1, 0), 0);
    }

    /** "KNOWN ones that are alone in their SLOT among all KNOWN ones". */
    private static void seenAlone() {
        Check.due("one alone", withKnown(9).seen(1, 0), 1);
        Check.due("two in one SLOT", withKnown(9, 10).seen(1, 0), 0);
        Check.due("16 in one SLOT", withKnown(SIXTEEN).seen(1, 0), 0);
        TagReader x = withKnown(9);
        x.tag(10, 1);
        x.tag(9, 1);
        Check.due("TAGS do not count", x.seen(1, 0), 1);
        int[] apart = new int[16];
        for (int number = 4095; number >= 0; number--) {
            apart[PlainReader.slotOf(number, 16, 3)] = number;
        }
        Check.due("16 in 16 SLOTS", withKnown(apart).seen(16, 3), 65535);
        int first = apart[0];
        for (int number = 0; number < 4096; number++) {
            if (PlainReader.slotOf(number, 16, 3) == 15 && number != apart[15]) {
                first = number;
            }
        }
        apart[0] = first;
        Check.due("the first and the last in one", withKnown(apart).seen(16, 3), 65535 - 1 - 32768);
    }

    private static void seenOfOneToSixtyFour() {
        TagReader x = withKnown(SIXTEEN);
        PlainReader plain = plainKnown(SIXTEEN);
        for (int f = 1; f <= 64; f++) {
            Check.due("seen(" + f + ")", x.seen(f, 2), plain.seen(f, 2));
        }
        Check.due("0", x.seen(0, 2), TagReader.BAD);
        Check.due("65", x.seen(65, 2), TagReader.BAD);
    }

    private static void seenRefused() {
        for (int f : new int[] {0, 65, -1, MIN, MAX}) {
            Twins.refused("seen(" + f + ", 0)", x -> x.seen(f, 0), TagReader.BAD);
        }
        Twins.onlyAsks("seen(64, 0)", x -> x.seen(64, 0));
    }

    private static void seedOfNobody() {
        for (int s : new int[] {0, 7, -7, MIN, MAX - 99, MAX}) {
            for (int f : new int[] {1, 64}) {
                Check.due("none is KNOWN", withKnown().seed(f, s), s);
                Check.due("one is seen by each", withKnown(5).seed(f, s), s);
            }
            Check.due("in one SLOT two never", withKnown(5, 6).seed(1, s), s);
        }
    }

    /** "The least seed from s on .. with which the most .. are SEEN". */
    private static void seedOfSeveralTheLeast() {
        TagReader x = withKnown(5, 6, 7);
        for (int s = 0; s < 60; s++) {
            int least = s;
            while (Integer.bitCount(x.seen(5, least)) < 3) {
                least++;
            }
            Check.holds("it is near", least - s < 100);
            Check.due("seed(5, " + s + ")", x.seed(5, s), least);
        }
    }

    /** "(100 of them are tried)": one that is better than all for long ahead is found from 99 ahead on, not 100. */
    private static void aHundredSeeds() {
        PlainReader plain = plainKnown(SIXTEEN);
        int[] seen = new int[4000];
        for (int seed = 0; seed < seen.length; seed++) {
            seen[seed] = Integer.bitCount(plain.seen(20, seed));
        }
        int found = 0;
        for (int seed = 100; seed < seen.length; seed++) {
            int most = 0;
            for (int i = seed - 100; i < seed; i++) {
                most = Math.max(most, seen[i]);
            }
            if (seen[seed] > most) {
                TagReader x = withKnown(SIXTEEN);
                Check.due("the last of a hundred", x.seed(20, seed - 99), seed);
                Check.holds("the first behind them", x.seed(20, seed - 100) < seed);
                Check.due("itself the first", x.seed(20, seed), plain.seed(20, seed));
                found++;
            }
        }
        Check.holds("some were found", found > 0);
    }

    /** Behind the greatest int the seeds go on from the least one, as sums of ints do. */
    private static void seedsAtTheirEnds() {
        PlainReader plain = plainKnown(SIXTEEN);
        int[] starts = {MAX - 100, MAX - 99, MAX - 98, MAX - 50, MAX - 1, MAX, MIN, MIN + 1, -100, -99, -1, 0};
        for (int s : starts) {
            TagReader x = withKnown(SIXTEEN);
            for (int f : new int[] {1, 2, 9, 31, 64}) {
                Check.due("seed(" + f + ", " + s + ")", x.seed(f, s), plain.seed(f, s));
            }
        }
    }

    private static void seedRefused() {
        for (int f : new int[] {0, 65, -1, MIN, MAX}) {
            Twins.refused("seed(" + f + ", 5)", x -> x.seed(f, 5), TagReader.BAD);
        }
        Twins.onlyAsks("seed(64, 0)", x -> x.seed(64, 0));
        Twins.onlyAsks("seed(1, 0)", x -> x.seed(1, 0));
    }
}
