/** Promises 35 to 39, sentence by sentence: the bounds, the empty and the full, what is refused. */
public final class EdgesOfSheetsTest {
    private static final int MIN = Integer.MIN_VALUE;
    private static final int MAX = Integer.MAX_VALUE;
    private static final int NULL = 1;
    private static final int INDEX = 2;
    private static final int CAST = 3;

    public static void main(String[] args) {
        sheetsAreFour();
        cellsAreZeroToForty();
        newCellsAreZero();
        sizeBelowZero();
        sheetRefused();
        laidOnNothing();
        laidAtTheEdges();
        lowestBitsOfBytes();
        lowestBitsOfShorts();
        allBitsOfInts();
        layRefused();
        readNone();
        readOneToSixteen();
        readFromAnyCell();
        readOfNothing();
        readOfAnotherLane();
        readBeyondTheCells();
        readHalfATag();
        readWithCellsThatWrapAround();
        wholeOnesAheadCome();
        tagIsRefused();
        tagIsRefusedByOneAhead();
        theSeventeenth();
        theFirstMet();
        readRefused();
        tornOfTheLatestThatCameToAnEnd();
        countsAtTheirEnds();
        countRefused();
        Check.finish("EdgesOfSheetsTest");
    }

    /** SHEET 0 with CELLS that hold TAGS 1/11, 2/12, .. */
    private static TagReader withTags(int lane, int many) {
        TagReader x = new TagReader();
        x.sheet(0, lane, 2 * many);
        for (int i = 0; i < many; i++) {
            x.lay(0, 2 * i, i + 1);
            x.lay(0, 2 * i + 1, i + 11);
        }
        return x;
    }

    private static void readIs(TagReader x, int lane, int f, int m, int came, int torn) {
        String call = "read(0, " + lane + ", " + f + ", " + m + ")";
        int before = x.count(1);
        Check.due(call, x.read(0, lane, f, m), came);
        Check.due(call + " came", x.count(1), before + Math.max(came, 0));
        Check.due(call + " torn", x.torn(), torn);
    }

    /** "SHEETS 0 to 3". */
    private static void sheetsAreFour() {
        TagReader x = new TagReader();
        for (int k = 0; k < 4; k++) {
            Check.due("sheet(" + k + ")", x.sheet(k, 0, 2), 1);
            Check.due("lay(" + k + ")", x.lay(k, 0, 10 + k), 1);
            Check.due("lay(" + k + ")", x.lay(k, 1, 20 + k), 1);
        }
        for (int k = 0; k < 4; k++) {
            Check.due("read(" + k + ")", x.read(k, 0, 0, 1), 1);
            Check.due("its own NUMBER", x.of(k, 0), 10 + k);
            Check.due("its own STRENGTH", x.of(k, 1), 20 + k);
        }
        for (int k : new int[] {-1, 4, MIN, MAX}) {
            Check.due("sheet(" + k + ")", x.sheet(k, 0, 2), TagReader.BAD);
            Check.due("lay(" + k + ")", x.lay(k, 0, 2), TagReader.BAD);
            Check.due("read(" + k + ")", x.read(k, 0, 0, 1), TagReader.BAD);
        }
    }

    /** "with 0 to 40 CELLS". */
    private static void cellsAreZeroToForty() {
        for (int lane = 0; lane < 3; lane++) {
            for (int n : new int[] {0, 1, 39, 40}) {
                TagReader x = new TagReader();
                Check.due("sheet of " + n, x.sheet(0, lane, n), 1);
                Check.due("CELLS", x.count(7), n);
                Check.due("the last", x.lay(0, n - 1, 5), n == 0 ? -12 : 1);
                Check.due("one behind", x.lay(0, n, 5), -12);
            }
            Check.due("41", new TagReader().sheet(0, lane, 41), TagReader.BAD);
        }
    }

    /** "a new row of CELLS 0". */
    private static void newCellsAreZero() {
        for (int lane = 0; lane < 3; lane++) {
            TagReader x = new TagReader();
            for (int i = 0; i < 40; i++) {
                x.sheet(1, 2, 40);
                x.lay(1, i, 7);
                x.sheet(1, lane, 40);
                if (i < 39) {
                    x.lay(1, i + 1, 7);
                    Check.due("CELL " + i + " as a NUMBER", x.read(1, lane, i, 1), 1);
                    Check.due("is 0", x.of(0, 0), 0);
                } else {
                    Check.due("CELL 39 as a STRENGTH is 0", x.read(1, lane, 38, 1), -20);
                }
                x.bits(6);
            }
        }
    }

    /** "-10 - 4"; "4 SIZE (below 0)". */
    private static void sizeBelowZero() {
        for (int n : new int[] {-1, -2, -40, MIN, MIN + 1}) {
            for (int k = 0; k < 4; k++) {
                int which = k;
                Twins.refused("sheet(" + k + ", 0, " + n + ")", x -> x.sheet(which, 0, n), -14);
                Twins.refused("sheet(" + k + ", 2, " + n + ")", x -> x.sheet(which, 2, n), -14);
            }
        }
        TagReader x = new TagReader();
        x.sheet(0, 0, -1);
        Check.due("nothing stays nothing", x.count(7), TagReader.NONE);
        Check.due("it is no FAULT of read()", x.torn(), 0);
    }

    private static void sheetRefused() {
        for (int k : new int[] {-1, 4, MIN, MAX}) {
            Twins.refused("sheet(" + k + ", 0, 1)", x -> x.sheet(k, 0, 1), TagReader.BAD);
            Twins.refused("sheet(" + k + ", 0, -1)", x -> x.sheet(k, 0, -1), TagReader.BAD);
        }
        for (int lane : new int[] {-1, 3, MIN, MAX}) {
            Twins.refused("sheet(0, " + lane + ", 1)", x -> x.sheet(0, lane, 1), TagReader.BAD);
            Twins.refused("sheet(0, " + lane + ", -1)", x -> x.sheet(0, lane, -1), TagReader.BAD);
        }
        for (int n : new int[] {41, 42, MAX}) {
            for (int k = 0; k < 4; k++) {
                int which = k;
                Twins.refused("sheet(" + k + ", 1, " + n + ")", x -> x.sheet(which, 1, n), TagReader.BAD);
            }
        }
    }

    /** "or nothing (at first)"; "NULL" ahead of "INDEX". */
    private static void laidOnNothing() {
        TagReader x = new TagReader();
        for (int k = 0; k < 4; k++) {
            for (int i : new int[] {0, -1, 40, MIN, MAX}) {
                Check.due("lay(" + k + ", " + i + ")", x.lay(k, i, 1), -11);
            }
        }
        Check.due("nothing still", x.count(7), TagReader.NONE);
        Check.due("it is no FAULT of read()", x.torn(), 0);
    }

    private static void laidAtTheEdges() {
        for (int n : new int[] {0, 1, 2, 39, 40}) {
            TagReader x = new TagReader();
            x.sheet(2, 1, n);
            for (int i : new int[] {-1, n, n + 1, 40, MIN, MAX}) {
                Check.due("lay(2, " + i + ") of " + n, x.lay(2, i, 1), -12);
            }
            for (int i = 0; i < n; i++) {
                Check.due("lay(2, " + i + ") of " + n, x.lay(2, i, 1), 1);
            }
        }
    }

    /** What a CELL of a lane is when v was laid: as the NUMBER of a TAG, or -20. */
    private static int cell(int lane, int v) {
        TagReader x = new TagReader();
        x.bits(12);
        x.sheet(0, lane, 2);
        x.lay(0, 0, v);
        x.lay(0, 1, 50);
        int came = x.read(0, lane, 0, 1);
        return came == 1 ? x.of(0, 0) : came;
    }

    /** The same for a STRENGTH. */
    private static int secondCell(int lane, int v) {
        TagReader x = new TagReader();
        x.sheet(0, lane, 2);
        x.lay(0, 1, v);
        int came = x.read(0, lane, 0, 1);
        return came == 1 ? x.of(0, 1) : came;
    }

    /** "(its lowest bits)". */
    private static void lowestBitsOfBytes() {
        int[] laid = {0, 127, 128, 255, 256, 257, 383, 384, -1, -128, -129, -256, MIN, MAX, MIN + 5, 65536 + 9};
        int[] want = {0, 127, -20, -20, 0, 1, 127, -20, -20, -20, 127, 0, 0, -20, 5, 9};
        for (int i = 0; i < laid.length; i++) {
            Check.due("byte " + laid[i], cell(0, laid[i]), want[i]);
        }
        Check.due("a STRENGTH", secondCell(0, 256 + 99), 99);
        Check.due("a STRENGTH of 100", secondCell(0, 256 + 100), -20);
        Check.due("a STRENGTH of 0", secondCell(0, 256), -20);
    }

    private static void lowestBitsOfShorts() {
        int[] laid = {0, 255, 4095, 4096, 32767, 32768, 65535, 65536, 65537, -1, -32768, -32769, -65536, MIN, MAX,
            MIN + 5};
        int[] want = {0, 255, 4095, -20, -20, -20, -20, 0, 1, -20, -20, -20, 0, 0, -20, 5};
        for (int i = 0; i < laid.length; i++) {
            Check.due("short " + laid[i], cell(1, laid[i]), want[i]);
        }
        Check.due("a STRENGTH", secondCell(1, 65536 + 99), 99);
        Check.due("a STRENGTH of 256 and more", secondCell(1, 256 + 99), -20);
    }

    private static void allBitsOfInts() {
        int[] laid = {0, 255, 4095, 4096, 65536, 1 << 24, -1, MIN, MAX, MIN + 5};
        int[] want = {0, 255, 4095, -20, -20, -20, -20, -20, -20, -20};
        for (int i = 0; i < laid.length; i++) {
            Check.due("int " + laid[i], cell(2, laid[i]), want[i]);
        }
        Check.due("a STRENGTH", secondCell(2, 99), 99);
        Check.due("a STRENGTH of 65536 and more", secondCell(2, 65536 + 99), -20);
    }

    private static void layRefused() {
        for (int k : new int[] {-1, 4, MIN, MAX}) {
            Twins.refused("lay(" + k + ", 0, 1)", x -> x.lay(k, 0, 1), TagReader.BAD);
        }
        Twins.refused("on nothing", Twins::makeRich, x -> x.lay(3, 0, 1), -11);
        for (int i : new int[] {-1, 6, MIN, MAX}) {
            Twins.refused("lay(0, " + i + ", 1)", Twins::makeRich, x -> x.lay(0, i, 1), -12);
        }
        for (int i : new int[] {-1, 40, MIN, MAX}) {
            Twins.refused("lay(0, " + i + ", 1)", Twins::makeFull, x -> x.lay(0, i, 1), -12);
        }
        Twins.refused("on no CELL", Twins::makeFull, x -> x.lay(3, 0, 1), -12);
    }

    /** "m (0 to 16)": none is read, whatever the SHEET is, so the machine finds nothing. */
    private static void readNone() {
        TagReader x = withTags(1, 2);
        for (int lane = 0; lane < 3; lane++) {
            for (int f : new int[] {0, 3, 4, -1, MIN, MAX}) {
                readIs(x, lane, f, 0, 0, 0);
            }
            Check.due("of nothing", x.read(3, lane, 0, 0), 0);
            Check.due("no FAULT", x.torn(), 0);
        }
    }

    private static void readOneToSixteen() {
        for (int lane = 0; lane < 3; lane++) {
            for (int m : new int[] {1, 2, 15, 16}) {
                TagReader x = withTags(lane, 16);
                readIs(x, lane, 0, m, m, 0);
                Check.due("the last NUMBER", x.of(m - 1, 0), m);
                Check.due("the last STRENGTH", x.of(m - 1, 1), m + 10);
                Check.due("it answers", x.of(m - 1, 2), 0);
            }
        }
    }

    /** "two CELLS each from CELL f on". */
    private static void readFromAnyCell() {
        TagReader x = new TagReader();
        x.sheet(0, 0, 40);
        for (int i = 0; i < 40; i++) {
            x.lay(0, i, i + 20);
        }
        for (int f : new int[] {0, 1, 36, 38}) {
            readIs(x, 0, f, 1, 1, 0);
            Check.due("NUMBER", x.of(x.count(1) - 1, 0), f + 20);
            Check.due("STRENGTH", x.of(x.count(1) - 1, 1), f + 21);
        }
        readIs(x, 0, 39, 1, 0, INDEX);
        readIs(x, 0, 40, 1, 0, INDEX);
    }

    private static void readOfNothing() {
        TagReader x = new TagReader();
        for (int lane = 0; lane < 3; lane++) {
            for (int f : new int[] {0, -1, 40, MIN, MAX}) {
                readIs(x, lane, f, 1, 0, NULL);
                readIs(x, lane, f, 16, 0, NULL);
            }
        }
    }

    /** "3 CAST (another lane)": ahead of INDEX, for SHEETS of no CELL too. */
    private static void readOfAnotherLane() {
        for (int lane = 0; lane < 3; lane++) {
            for (int as = 0; as < 3; as++) {
                TagReader x = withTags(lane, 2);
                readIs(x, as, 0, 2, as == lane ? 2 : 0, as == lane ? 0 : CAST);
                readIs(x, as, -1, 1, 0, as == lane ? INDEX : CAST);
                readIs(x, as, MAX, 1, 0, as == lane ? INDEX : CAST);
                TagReader y = withTags(lane, 0);
                readIs(y, as, 0, 1, 0, as == lane ? INDEX : CAST);
            }
        }
        TagReader x = withTags(0, 2);
        x.sheet(0, 1, 4);
        readIs(x, 0, 0, 1, 0, CAST);
        x.lay(0, 1, 5);
        readIs(x, 1, 0, 1, 1, 0);
    }

    private static void readBeyondTheCells() {
        TagReader x = withTags(2, 2);
        for (int f : new int[] {-1, -2, 4, 5, 40, 41, MIN, MIN + 1, MAX, MAX - 1}) {
            readIs(x, 2, f, 1, 0, INDEX);
            readIs(x, 2, f, 16, 0, INDEX);
        }
        readIs(x, 2, 2, 1, 1, 0);
    }

    /** A TAG of which the first CELL alone is there is not whole. */
    private static void readHalfATag() {
        TagReader x = withTags(2, 2);
        readIs(x, 2, 3, 1, 0, INDEX);
        readIs(x, 2, -1, 1, 0, INDEX);
        TagReader y = new TagReader();
        y.sheet(0, 2, 1);
        y.lay(0, 0, 5);
        readIs(y, 2, 0, 1, 0, INDEX);
        TagReader z = new TagReader();
        z.sheet(0, 2, 3);
        z.lay(0, 0, 5);
        z.lay(0, 1, 5);
        z.lay(0, 2, 5);
        readIs(z, 2, 0, 2, 1, INDEX);
        Check.due("though its NUMBER would be refused", z.count(1), 1);
    }

    /** Sums that wrap around into CELLS are met behind others that are none. */
    private static void readWithCellsThatWrapAround() {
        TagReader x = withTags(2, 16);
        for (int f : new int[] {MAX, MAX - 1, MAX - 2, MIN, MIN + 1, MIN + 2, -2, -4, -31, -32, 1 << 30, -(1 << 30)}) {
            readIs(x, 2, f, 16, 0, INDEX);
        }
    }

    /** "What the machine refuses: those that were whole ahead come". */
    private static void wholeOnesAheadCome() {
        for (int many = 0; many < 16; many++) {
            TagReader x = withTags(1, many);
            readIs(x, 1, 0, many + 1, many, INDEX);
            x.bits(6);
            readIs(x, 1, 0, 16, many, INDEX);
            Check.due("the last that came", x.of(many - 1, 0), many == 0 ? TagReader.BAD : many);
        }
    }

    /** "-20 less i: TAG i, whole, is refused by tag() as BAD ..: then none came". */
    private static void tagIsRefused() {
        for (int i = 0; i < 16; i++) {
            for (int number : new int[] {-1, 64, MIN, MAX}) {
                TagReader x = withTags(2, 16);
                x.lay(0, 2 * i, number);
                readIs(x, 2, 0, 16, -20 - i, 0);
                readIs(x, 2, 0, i, i, 0);
            }
            for (int strength : new int[] {0, 100, MIN, MAX}) {
                TagReader x = withTags(2, 16);
                x.lay(0, 2 * i + 1, strength);
                readIs(x, 2, 0, 16, -20 - i, 0);
            }
            TagReader x = withTags(2, 16);
            x.tag(i + 1, 1);
            readIs(x, 2, 0, 16, -20 - i, 0);
            x.hush(0, true);
            readIs(x, 2, 0, 16, -20 - i, 0);
            Check.due("what was there stays SILENT", x.of(0, 2), 1);
        }
    }

    /** "(those ahead of it being there)". */
    private static void tagIsRefusedByOneAhead() {
        for (int i = 1; i < 16; i++) {
            TagReader x = withTags(2, 16);
            x.lay(0, 2 * i, 1);
            readIs(x, 2, 0, 16, -20 - i, 0);
            Check.due("the NUMBER is free still", x.tag(1, 1), 0);
        }
    }

    /** "FULL: it would be the 17th: likewise". */
    private static void theSeventeenth() {
        for (int there = 0; there <= 16; there++) {
            TagReader x = withTags(2, 16);
            for (int t = 0; t < there; t++) {
                x.tag(63 - t, 1);
            }
            if (there > 0) {
                readIs(x, 2, 0, 17 - there, TagReader.FULL, 0);
                readIs(x, 2, 0, 16, TagReader.FULL, 0);
            }
            readIs(x, 2, 0, 16 - there, 16 - there, 0);
            Check.due("16", x.count(1), 16);
        }
    }

    /** "the first met". */
    private static void theFirstMet() {
        TagReader x = withTags(2, 16);
        for (int t = 0; t < 14; t++) {
            x.tag(63 - t, 1);
        }
        x.lay(0, 2, 0);
        x.lay(0, 3, 0);
        readIs(x, 2, 0, 16, -21, 0);
        x.lay(0, 2, 2);
        x.lay(0, 3, 12);
        x.lay(0, 6, 64);
        readIs(x, 2, 0, 16, TagReader.FULL, 0);
        x.lay(0, 4, 64);
        readIs(x, 2, 0, 16, -22, 0);
        readIs(x, 2, 28, 16, 2, INDEX);
        readIs(x, 2, 30, 16, -20, INDEX);
        readIs(x, 2, 0, 1, TagReader.FULL, INDEX);
        readIs(x, 2, 32, 1, 0, INDEX);
        TagReader y = withTags(2, 4);
        y.lay(0, 6, -1);
        readIs(y, 2, 0, 16, -23, 0);
        readIs(y, 2, 0, 3, 3, 0);
    }

    private static void readRefused() {
        for (int m = 0; m < 2; m++) {
            int many = m;
            for (int k : new int[] {-1, 4, MIN, MAX}) {
                Twins.refused("read(" + k + ")", x -> x.read(k, 0, 0, many), TagReader.BAD);
            }
            for (int lane : new int[] {-1, 3, MIN, MAX}) {
                Twins.refused("read(0, " + lane + ")", x -> x.read(0, lane, 0, many), TagReader.BAD);
            }
        }
        for (int m : new int[] {-1, 17, MIN, MAX}) {
            Twins.refused("m " + m, x -> x.read(0, 0, 0, m), TagReader.BAD);
            Twins.refused("m " + m + " of nothing", x -> x.read(1, 0, 0, m), TagReader.BAD);
        }
        Twins.refused("TAG 1 is there", EdgesOfSheetsTest::makeRefusing, x -> x.read(0, 0, 0, 2), -21);
        Twins.refused("FULL", Twins::makeFull, x -> x.read(0, 2, 0, 1), TagReader.FULL);
        Twins.refused("FULL, SILENT ones too", Twins::makeFull, x -> x.read(0, 2, 0, 16), TagReader.FULL);
    }

    private static void makeRefusing(TagReader x) {
        Twins.makeRich(x);
        x.lay(0, 2, 20);
    }

    /** "The FAULT of the latest read() that came to an end; 0." */
    private static void tornOfTheLatestThatCameToAnEnd() {
        TagReader x = withTags(0, 2);
        Check.due("none was", x.torn(), 0);
        readIs(x, 1, 0, 1, 0, CAST);
        Check.due("BAD", x.read(0, 3, 0, 1), TagReader.BAD);
        Check.due("is no end", x.torn(), CAST);
        readIs(x, 0, 4, 1, 0, INDEX);
        x.tag(1, 1);
        Check.due("refused", x.read(0, 0, 0, 1), -20);
        Check.due("is no end", x.torn(), INDEX);
        Check.due("of nothing", x.read(3, 0, 0, 1), 0);
        Check.due("NULL", x.torn(), NULL);
        x.bits(6);
        x.sheet(0, 0, -1);
        x.lay(0, -1, 0);
        Check.due("other calls leave it", x.torn(), NULL);
        x.sheet(0, 0, 4);
        x.lay(0, 1, 1);
        readIs(x, 0, 0, 1, 1, 0);
        Twins.onlyAsks("torn()", TagReader::torn);
    }

    private static void countsAtTheirEnds() {
        TagReader x = new TagReader();
        int[] none = {6, 0, 0, 0, 0, TagReader.NONE, 0, TagReader.NONE};
        for (int what = 0; what < 8; what++) {
            Check.due("new: count(" + what + ")", x.count(what), none[what]);
        }
        Twins.makeFull(x);
        x.tree(0);
        x.block(0, 12);
        int[] full = {12, 16, 16, 16, 64, 12, 200, 40};
        for (int what = 0; what < 8; what++) {
            Check.due("full: count(" + what + ")", x.count(what), full[what]);
        }
        x.block(0, 0);
        x.sheet(0, 0, 0);
        x.sheet(1, 0, 7);
        Check.due("a BLOCKER of no bits is one", x.count(5), 0);
        Check.due("a SHEET of no CELLS is one", x.count(7), 0);
    }

    private static void countRefused() {
        for (int what : new int[] {-1, 8, MIN, MAX}) {
            Twins.refused("count(" + what + ")", x -> x.count(what), TagReader.BAD);
        }
        for (int what = 0; what < 8; what++) {
            int asked = what;
            Twins.onlyAsks("count(" + what + ")", x -> x.count(asked));
        }
    }
}
