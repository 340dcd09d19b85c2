import java.util.function.ToIntFunction;

/** Promises 1 to 7, sentence by sentence: the bounds, the empty and the full, what is refused. */
public final class EdgesOfTagsTest {
    private static final int MIN = Integer.MIN_VALUE;
    private static final int MAX = Integer.MAX_VALUE;

    public static void main(String[] args) {
        nothingIsThereAtFirst();
        objectsShareNothing();
        bitsAreTwoToTwelve();
        bitsTakeAway("TAGS", x -> x.tag(1, 1), 1, 0);
        bitsTakeAway("SILENT ones", x -> x.tag(1, 1) + x.hush(0, true), 2, 0);
        bitsTakeAway("KNOWN ones", x -> x.know(1), 3, 0);
        bitsTakeAway("questions", x -> x.tree(0), 4, 0);
        bitsTakeAway("THE BLOCKER", x -> x.block(0, 0), 5, TagReader.NONE);
        bitsOfTheSameNumberTakeAwayToo();
        bitsLeaveNoLatestTree();
        bitsMakeRoomForSixteenAgain();
        bitsRefused();
        numbersHaveBits();
        strengthsAreOneToNinetyNine();
        noTwoAlike();
        sixteenTags();
        allNumbersOfFewBits();
        tagsRefused();
        ofTags();
        hushedAndNot();
        silentTagsDoNotAnswer();
        wokenNoneSomeAll();
        blockerBits();
        blockersLowestBits();
        blockerNone();
        blockerRefused();
        Check.finish("EdgesOfTagsTest");
    }

    private static TagReader ofBits(int n) {
        TagReader x = new TagReader();
        x.bits(n);
        return x;
    }

    private static TagReader sixteen() {
        TagReader x = new TagReader();
        for (int i = 0; i < 16; i++) {
            x.tag(i, 1);
        }
        return x;
    }

    /** "As told at first; no TAGS, KNOWN ones, questions; SHEETS of nothing." */
    private static void nothingIsThereAtFirst() {
        PlainReader plain = new PlainReader();
        TagReader x = new TagReader();
        for (Call call : Look.calls()) {
            Check.due("new: " + call, call.on(x), call.on(plain));
        }
        TagReader y = new TagReader();
        Check.due("6 bits at first", y.count(0), 6);
        Check.due("so 64 is no NUMBER", y.tag(64, 1), TagReader.BAD);
        Check.due("and 63 is", y.tag(63, 1), 0);
    }

    private static void objectsShareNothing() {
        TagReader used = new TagReader();
        Twins.makeRich(used);
        PlainReader plain = new PlainReader();
        TagReader x = new TagReader();
        Twins.makeFull(used);
        for (Call call : Look.calls()) {
            Check.due("beside another: " + call, call.on(x), call.on(plain));
        }
    }

    /** "n 2 to 12"; "what n was". */
    private static void bitsAreTwoToTwelve() {
        int was = 6;
        TagReader x = new TagReader();
        for (int n = 2; n <= 12; n++) {
            Check.due("bits(" + n + ")", x.bits(n), was);
            Check.due("n", x.count(0), n);
            was = n;
        }
        for (int n = 12; n >= 2; n--) {
            Check.due("bits(" + n + ")", x.bits(n), was);
            was = n;
        }
    }

    private static void bitsTakeAway(String what, ToIntFunction<TagReader> given, int count, int want) {
        TagReader x = new TagReader();
        given.applyAsInt(x);
        Check.holds(what + " are there", x.count(count) != want);
        x.bits(7);
        Check.due(what + " are gone", x.count(count), want);
    }

    private static void bitsOfTheSameNumberTakeAwayToo() {
        TagReader x = new TagReader();
        Twins.makeFull(x);
        Check.due("bits(12) again", x.bits(12), 12);
        int[] want = {12, 0, 0, 0, 0, TagReader.NONE, 200, 40};
        for (int what = 0; what < want.length; what++) {
            Check.due("count(" + what + ")", x.count(what), want[what]);
        }
    }

    /** "questions are gone": those of the latest tree, so that there is none to tell of. */
    private static void bitsLeaveNoLatestTree() {
        TagReader x = ofBits(4);
        x.tree(0);
        x.bits(4);
        for (int what = 0; what < 5; what++) {
            Check.due("grown(" + what + ")", x.grown(what), TagReader.STATE);
        }
        Check.due("learns", x.learns(0), TagReader.STATE);
        Check.due("heard", x.heard(0, 0), TagReader.BAD);
        Check.due("a new tree", x.tree(1), 1);
        Check.due("is the latest", x.grown(0), 1);
    }

    private static void bitsMakeRoomForSixteenAgain() {
        TagReader x = sixteen();
        x.tree(0);
        Check.due("all are SILENT", x.count(2), 16);
        x.bits(4);
        for (int i = 0; i < 16; i++) {
            Check.due("tag anew", x.tag(15 - i, 99), i);
            Check.due("it answers", x.of(i, 2), 0);
            Check.due("known anew", x.know(i), i + 1);
        }
    }

    private static void bitsRefused() {
        for (int v : new int[] {1, 13, 0, -1, -6, MIN, MAX}) {
            Twins.refused("bits(" + v + ")", x -> x.bits(v), TagReader.BAD);
        }
    }

    /** "a NUMBER of n bits". */
    private static void numbersHaveBits() {
        for (int n = 2; n <= 12; n++) {
            TagReader x = ofBits(n);
            int top = (1 << n) - 1;
            Check.due("-1 of " + n, x.tag(-1, 1), TagReader.BAD);
            Check.due("one above the top of " + n, x.tag(top + 1, 1), TagReader.BAD);
            Check.due("none came", x.count(1), 0);
            Check.due("0 of " + n, x.tag(0, 1), 0);
            Check.due("the top of " + n, x.tag(top, 1), 1);
            Check.due("it is", x.of(1, 0), top);
        }
    }

    /** "a STRENGTH (1 to 99)". */
    private static void strengthsAreOneToNinetyNine() {
        TagReader x = new TagReader();
        Check.due("0", x.tag(1, 0), TagReader.BAD);
        Check.due("100", x.tag(1, 100), TagReader.BAD);
        Check.due("none came", x.count(1), 0);
        Check.due("1", x.tag(1, 1), 0);
        Check.due("99", x.tag(2, 99), 1);
        Check.due("it is 1", x.of(0, 1), 1);
        Check.due("it is 99", x.of(1, 1), 99);
    }

    /** "no two alike"; "BAD: also a NUMBER that there is". */
    private static void noTwoAlike() {
        TagReader x = new TagReader();
        x.tag(5, 7);
        x.tag(6, 7);
        Check.due("the first again", x.tag(5, 7), TagReader.BAD);
        Check.due("the last again", x.tag(6, 7), TagReader.BAD);
        Check.due("with another STRENGTH", x.tag(5, 8), TagReader.BAD);
        x.hush(0, true);
        Check.due("of a SILENT one", x.tag(5, 7), TagReader.BAD);
        Check.due("it stays SILENT", x.of(0, 2), 1);
        Check.due("a STRENGTH may be there twice", x.tag(7, 7), 2);
    }

    /** "TAGS (16) are numbered as they come"; "FULL". */
    private static void sixteenTags() {
        TagReader x = new TagReader();
        for (int i = 0; i < 16; i++) {
            Check.due("tag " + i, x.tag(63 - i, i + 1), i);
        }
        Check.due("the 17th", x.tag(0, 1), TagReader.FULL);
        Check.due("the last that came", x.of(15, 0), 48);
        Check.due("FULL is told of what is well told alone: NUMBER", x.tag(64, 1), TagReader.BAD);
        Check.due("NUMBER below 0", x.tag(-1, 1), TagReader.BAD);
        Check.due("STRENGTH 0", x.tag(0, 0), TagReader.BAD);
        Check.due("STRENGTH 100", x.tag(0, 100), TagReader.BAD);
        Check.due("a NUMBER that there is", x.tag(48, 1), TagReader.BAD);
    }

    /** With 2 and 3 bits there are fewer NUMBERS than TAGS can be: what is one more is BAD. */
    private static void allNumbersOfFewBits() {
        for (int n = 2; n <= 4; n++) {
            TagReader x = ofBits(n);
            for (int number = 0; number < 1 << n; number++) {
                Check.due("tag", x.tag(number, 50), number);
            }
            Check.due("one more of " + n, x.tag(1 << n, 50), TagReader.BAD);
            Check.due("one again of " + n, x.tag(0, 50), TagReader.BAD);
        }
    }

    private static void tagsRefused() {
        for (int number : new int[] {-1, 4096, MIN, MAX}) {
            Twins.refused("tag(" + number + ", 1)", x -> x.tag(number, 1), TagReader.BAD);
        }
        for (int strength : new int[] {0, 100, -1, MIN, MAX}) {
            Twins.refused("tag(1, " + strength + ")", x -> x.tag(1, strength), TagReader.BAD);
        }
        Twins.refused("tag of a NUMBER that there is", Twins::makeRich, x -> x.tag(20, 5), TagReader.BAD);
        Twins.refused("the 17th", Twins::makeFull, x -> x.tag(0, 5), TagReader.FULL);
    }

    private static void ofTags() {
        Check.due("of no TAG", new TagReader().of(0, 0), TagReader.BAD);
        TagReader x = sixteen();
        for (int what = 0; what < 3; what++) {
            Check.due("the last", x.of(15, what), what == 0 ? 15 : what == 1 ? 1 : 0);
            for (int t : new int[] {-1, 16, MIN, MAX}) {
                Check.due("of(" + t + ", " + what + ")", x.of(t, what), TagReader.BAD);
            }
        }
        for (int what : new int[] {-1, 3, MIN, MAX}) {
            Check.due("of(15, " + what + ")", x.of(15, what), TagReader.BAD);
        }
        Twins.onlyAsks("of(0, 2)", y -> y.of(0, 2));
        Twins.onlyAsks("of(16, 3)", y -> y.of(16, 3));
    }

    /** "A TAG is SILENT, or not: whether it was (1, 0)." */
    private static void hushedAndNot() {
        TagReader x = sixteen();
        for (int t : new int[] {0, 15}) {
            Check.due("was not", x.hush(t, false), 0);
            Check.due("was not yet", x.hush(t, true), 0);
            Check.due("was", x.hush(t, true), 1);
            Check.due("it is", x.of(t, 2), 1);
            Check.due("was still", x.hush(t, false), 1);
            Check.due("is no more", x.of(t, 2), 0);
        }
        Check.due("no TAG", new TagReader().hush(0, true), TagReader.BAD);
        for (int t : new int[] {-1, 16, MIN, MAX}) {
            Twins.refused("hush(" + t + ", true)", y -> y.hush(t, true), TagReader.BAD);
            Twins.refused("hush(" + t + ", false)", y -> y.hush(t, false), TagReader.BAD);
        }
        Twins.refused("hush(3, true) of three", Twins::makeRich, y -> y.hush(3, true), TagReader.BAD);
    }

    /** "A TAG can be SILENT (it was read; it does not answer)." */
    private static void silentTagsDoNotAnswer() {
        TagReader x = sixteen();
        for (int t = 0; t < 16; t++) {
            x.hush(t, true);
            Check.due("so many answer", x.ask(0, 0, 0), 15 - t);
        }
        Check.due("nobody in a tree", x.tree(0), 1);
        Check.due("nobody in a FRAME", x.frame(3, 3), 0);
        Check.due("all its SLOTS are EMPTY", x.shown(1), 3);
    }

    /** "All TAGS answer again: how many were SILENT." */
    private static void wokenNoneSomeAll() {
        Check.due("no TAGS", new TagReader().wake(), 0);
        TagReader x = sixteen();
        Check.due("none", x.wake(), 0);
        x.hush(0, true);
        x.hush(15, true);
        Check.due("two", x.wake(), 2);
        Check.due("the last answers", x.of(15, 2), 0);
        x.tree(0);
        Check.due("all", x.wake(), 16);
        Check.due("all answer", x.ask(0, 0, 0), 16);
        Check.due("none is left", x.wake(), 0);
    }

    /** "a beginning of b bits (0 to n)"; "how many NUMBERS are beneath it". */
    private static void blockerBits() {
        for (int n = 2; n <= 12; n++) {
            TagReader x = ofBits(n);
            for (int b = 0; b <= n; b++) {
                Check.due("block(0, " + b + ") of " + n, x.block(0, b), 1 << n - b);
                Check.due("its bits", x.count(5), b);
                Check.due("so many answer", x.ask(0, 0, 0), 1 << n - b);
            }
            Check.due("one bit too many of " + n, x.block(0, n + 1), TagReader.BAD);
            Check.due("below none of " + n, x.block(0, -2), TagReader.BAD);
            Check.due("the last stays", x.count(5), n);
        }
    }

    /** "its lowest bits". */
    private static void blockersLowestBits() {
        for (int beginning : new int[] {0, 1, 5, 8, 63, 64, 4096 + 37, -1, -2, MIN, MIN + 3, MAX}) {
            for (int b = 0; b <= 6; b++) {
                TagReader x = new TagReader();
                Check.due("block(" + beginning + ", " + b + ")", x.block(beginning, b), 1 << 6 - b);
                Check.due("beneath it", x.ask(b, beginning & (1 << b) - 1, 0), 1 << 6 - b);
            }
        }
    }

    /** "b -1: there is none"; "(0 then)". */
    private static void blockerNone() {
        TagReader x = new TagReader();
        Check.due("none at first", x.count(5), TagReader.NONE);
        Check.due("none anew", x.block(0, -1), 0);
        x.block(3, 2);
        for (int beginning : new int[] {0, -1, MIN, MAX}) {
            Check.due("none with " + beginning, x.block(beginning, -1), 0);
            Check.due("none", x.count(5), TagReader.NONE);
            Check.due("nobody answers", x.ask(0, 0, 0), 0);
        }
        Check.due("one again", x.block(0, 0), 64);
    }

    private static void blockerRefused() {
        for (int b : new int[] {-2, 13, MIN, MAX}) {
            Twins.refused("block(0, " + b + ")", x -> x.block(0, b), TagReader.BAD);
            Twins.refused("block(-1, " + b + ")", x -> x.block(-1, b), TagReader.BAD);
        }
        Twins.refused("block(0, 6) of 5 bits", Twins::makeRich, x -> x.block(0, 6), TagReader.BAD);
    }
}
