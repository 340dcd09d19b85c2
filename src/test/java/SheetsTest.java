/** Promises 35 to 39. */
public final class SheetsTest {
    private static final int MIN = Integer.MIN_VALUE;
    private static final int MAX = Integer.MAX_VALUE;

    public static void main(String[] args) {
        sheets();
        laid();
        lowestBits();
        readWhole();
        readTorn();
        readRefused();
        readFull();
        readWrongly();
        tornStays();
        counts();
        Check.finish("SheetsTest");
    }

    private static void sheets() {
        TagReader x = new TagReader();
        Check.due("nothing", x.count(7), TagReader.NONE);
        Check.due("of 0 cells", x.sheet(0, 0, 0), 1);
        Check.due("0 cells", x.count(7), 0);
        Check.due("of 40 cells", x.sheet(0, 2, 40), 1);
        Check.due("40 cells", x.count(7), 40);
        Check.due("of 41", x.sheet(0, 0, 41), TagReader.BAD);
        Check.due("of the most", x.sheet(0, 0, MAX), TagReader.BAD);
        Check.due("of -1", x.sheet(0, 0, -1), -14);
        Check.due("of the least", x.sheet(0, 0, MIN), -14);
        Check.due("it stays", x.count(7), 40);
        for (int k : new int[] {-1, 4, MIN, MAX}) {
            Check.due("sheet " + k, x.sheet(k, 0, 1), TagReader.BAD);
            Check.due("BAD ahead of the fault", x.sheet(k, 0, -1), TagReader.BAD);
        }
        for (int lane : new int[] {-1, 3, MIN, MAX}) {
            Check.due("lane " + lane, x.sheet(0, lane, 1), TagReader.BAD);
            Check.due("BAD ahead of the fault too", x.sheet(0, lane, -1), TagReader.BAD);
        }
        Check.due("the last sheet", x.sheet(3, 1, 2), 1);
        Check.due("sheet 0 stays", x.count(7), 40);
        x.lay(3, 0, 7);
        x.lay(3, 1, 8);
        x.sheet(3, 1, 2);
        Check.due("a new row's cells are 0", x.read(3, 1, 0, 1), -20);
        x.lay(3, 1, 8);
        Check.due("so is the number", x.read(3, 1, 0, 1), 1);
        Check.due("it is", x.of(0, 0), 0);
    }

    private static void laid() {
        TagReader x = new TagReader();
        for (int k : new int[] {-1, 4, MIN, MAX}) {
            Check.due("lay(" + k + ")", x.lay(k, 0, 1), TagReader.BAD);
        }
        Check.due("on nothing", x.lay(2, 0, 1), -11);
        Check.due("on nothing, far off", x.lay(2, -1, 1), -11);
        x.sheet(2, 0, 3);
        for (int i : new int[] {-1, 3, 40, MIN, MAX}) {
            Check.due("lay(2, " + i + ")", x.lay(2, i, 1), -12);
        }
        for (int i = 0; i < 3; i++) {
            Check.due("lay(2, " + i + ")", x.lay(2, i, 1), 1);
        }
        x.sheet(2, 0, 0);
        Check.due("on no cell", x.lay(2, 0, 1), -12);
        Check.due("torn is not asked of lay", x.torn(), 0);
    }

    private static int numberLaid(int lane, int v) {
        TagReader x = new TagReader();
        x.bits(12);
        x.sheet(1, lane, 2);
        x.lay(1, 0, v);
        x.lay(1, 1, 9);
        int came = x.read(1, lane, 0, 1);
        return came == 1 ? x.of(0, 0) : came;
    }

    private static void lowestBits() {
        Check.due("byte 127", numberLaid(0, 127), 127);
        Check.due("byte 128 is below 0", numberLaid(0, 128), -20);
        Check.due("byte 255 is below 0", numberLaid(0, 255), -20);
        Check.due("byte 256 is 0", numberLaid(0, 256), 0);
        Check.due("byte of a long way", numberLaid(0, -512 + 5), 5);
        Check.due("short 4095", numberLaid(1, 4095), 4095);
        Check.due("short 4096", numberLaid(1, 4096), -20);
        Check.due("short 65536", numberLaid(1, 65536 + 77), 77);
        Check.due("short 32768 is below 0", numberLaid(1, 32768), -20);
        Check.due("int 4095", numberLaid(2, 4095), 4095);
        Check.due("int 65536", numberLaid(2, 65536 + 77), -20);
        Check.due("int 2^24", numberLaid(2, 1 << 24), -20);
    }

    /** Sheet 0 of INTS with tags 1/11, 2/12, .. as many as told, and one CELL more. */
    private static TagReader withSheet(int many) {
        TagReader x = new TagReader();
        x.sheet(0, 2, 2 * many + 1);
        for (int i = 0; i < many; i++) {
            x.lay(0, 2 * i, i + 1);
            x.lay(0, 2 * i + 1, i + 11);
        }
        x.lay(0, 2 * many, 63);
        return x;
    }

    private static void readWhole() {
        TagReader x = withSheet(5);
        Check.due("two from cell 2 on", x.read(0, 2, 2, 2), 2);
        Check.due("no fault", x.torn(), 0);
        Check.due("two", x.count(1), 2);
        Check.due("number 0", x.of(0, 0), 2);
        Check.due("strength 0", x.of(0, 1), 12);
        Check.due("answers", x.of(0, 2), 0);
        Check.due("number 1", x.of(1, 0), 3);
        Check.due("strength 1", x.of(1, 1), 13);
        Check.due("none", x.read(0, 2, 0, 0), 0);
        Check.due("another, between others", x.read(0, 2, 7, 1), 1);
        Check.due("number 2", x.of(2, 0), 14);
        Check.due("strength 2", x.of(2, 1), 5);
    }

    private static void readTorn() {
        TagReader x = withSheet(3);
        Check.due("three are whole", x.read(0, 2, 0, 16), 3);
        Check.due("INDEX", x.torn(), 2);
        Check.due("they came", x.count(1), 3);
        x.bits(6);
        Check.due("none is whole", x.read(0, 2, 6, 1), 0);
        Check.due("INDEX again", x.torn(), 2);
        Check.due("far behind", x.read(0, 2, MAX, 2), 0);
        Check.due("ahead", x.read(0, 2, -1, 3), 0);
        Check.due("far ahead", x.read(0, 2, MIN, 3), 0);
        Check.due("INDEX of that", x.torn(), 2);
        Check.due("another lane", x.read(0, 1, 0, 1), 0);
        Check.due("CAST", x.torn(), 3);
        Check.due("another lane, far off", x.read(0, 0, 99, 1), 0);
        Check.due("CAST ahead of INDEX", x.torn(), 3);
        Check.due("nothing", x.read(1, 0, 0, 1), 0);
        Check.due("NULL", x.torn(), 1);
        Check.due("nothing has no lane", x.read(1, 2, -5, 1), 0);
        Check.due("NULL too", x.torn(), 1);
        Check.due("no tag asked of nothing", x.read(1, 0, 0, 0), 0);
        Check.due("no fault", x.torn(), 0);
        Check.due("no tag asked far off", x.read(0, 2, -9, 0), 0);
        Check.due("no fault either", x.torn(), 0);
        Check.due("no tag asked of another lane", x.read(0, 0, 0, 0), 0);
        Check.due("no fault there", x.torn(), 0);
        Check.due("nobody came", x.count(1), 0);
        x.sheet(2, 2, 0);
        Check.due("no cell", x.read(2, 2, 0, 1), 0);
        Check.due("INDEX of no cell", x.torn(), 2);
        Check.due("no cell of another lane", x.read(2, 1, 0, 1), 0);
        Check.due("CAST of no cell", x.torn(), 3);
    }

    private static void readRefused() {
        TagReader x = withSheet(4);
        x.lay(0, 4, 1);
        Check.due("the third is the first again", x.read(0, 2, 0, 4), -22);
        Check.due("none came", x.count(1), 0);
        Check.due("two of them do", x.read(0, 2, 0, 2), 2);
        Check.due("the first is there", x.read(0, 2, 0, 2), -20);
        Check.due("two stay", x.count(1), 2);
        x.lay(0, 4, 3);
        x.lay(0, 7, 100);
        Check.due("a strength of 100", x.read(0, 2, 4, 2), -21);
        x.lay(0, 7, 99);
        x.lay(0, 4, 64);
        Check.due("a number of 64", x.read(0, 2, 4, 2), -20);
        x.lay(0, 4, 3);
        Check.due("refused ahead of torn", x.read(0, 2, 2, 16), -20);
        Check.due("torn ahead of refused", x.read(0, 2, 8, 1), 0);
        Check.due("the last one", x.read(0, 2, 4, 16), 2);
        Check.due("torn", x.torn(), 2);
        x.hush(0, true);
        Check.due("refused again", x.read(0, 2, 0, 1), -20);
        Check.due("the silent one stays silent", x.count(2), 1);
    }

    private static void readFull() {
        TagReader x = withSheet(16);
        for (int i = 0; i < 10; i++) {
            x.tag(40 + i, 1);
        }
        Check.due("six fit, seven do not", x.read(0, 2, 0, 7), TagReader.FULL);
        Check.due("none came", x.count(1), 10);
        x.lay(0, 2 * 6, 1);
        Check.due("the seventh is BAD ahead of FULL", x.read(0, 2, 0, 7), -26);
        x.lay(0, 2 * 6, 7);
        Check.due("six come", x.read(0, 2, 0, 6), 6);
        Check.due("sixteen", x.count(1), 16);
        Check.due("the next is the 17th", x.read(0, 2, 12, 1), TagReader.FULL);
        Check.due("a BAD one is BAD", x.read(0, 2, 0, 1), -20);
        Check.due("what is not whole is torn", x.read(0, 2, 32, 1), 0);
        Check.due("INDEX", x.torn(), 2);
        Check.due("none asked", x.read(0, 2, 0, 0), 0);
        TagReader y = withSheet(16);
        Check.due("all sixteen", y.read(0, 2, 0, 16), 16);
        Check.due("the last number", y.of(15, 0), 16);
    }

    private static void readWrongly() {
        TagReader x = withSheet(2);
        for (int k : new int[] {-1, 4, MIN, MAX}) {
            Check.due("k " + k, x.read(k, 2, 0, 1), TagReader.BAD);
        }
        for (int lane : new int[] {-1, 3, MIN, MAX}) {
            Check.due("lane " + lane, x.read(0, lane, 0, 1), TagReader.BAD);
        }
        for (int m : new int[] {-1, 17, MIN, MAX}) {
            Check.due("m " + m, x.read(0, 2, 0, m), TagReader.BAD);
        }
        Check.due("nobody came", x.count(1), 0);
    }

    private static void tornStays() {
        TagReader x = withSheet(2);
        Check.due("nothing was read", x.torn(), 0);
        x.read(1, 0, 0, 1);
        Check.due("NULL", x.torn(), 1);
        Check.due("BAD", x.read(0, 3, 0, 1), TagReader.BAD);
        Check.due("came to no end", x.torn(), 1);
        x.lay(0, 1, 0);
        Check.due("refused", x.read(0, 2, 0, 1), -20);
        Check.due("came to no end either", x.torn(), 1);
        Check.due("other faults", x.lay(0, 99, 0) + x.sheet(0, 0, -1), -26);
        Check.due("are not read's", x.torn(), 1);
        Check.due("a whole one", x.read(0, 2, 2, 1), 1);
        Check.due("clears it", x.torn(), 0);
    }

    private static void counts() {
        TagReader x = new TagReader();
        x.bits(9);
        x.tag(1, 1);
        x.tag(2, 1);
        x.tag(3, 1);
        x.tree(0);
        x.hush(1, false);
        x.know(1);
        x.block(3, 4);
        x.feed(0);
        x.sheet(0, 0, 11);
        x.sheet(1, 0, 12);
        int[] want = {9, 3, 2, 1, x.grown(0), 4, 8, 11};
        for (int what = 0; what < want.length; what++) {
            Check.due("count(" + what + ")", x.count(what), want[what]);
        }
        for (int what : new int[] {-1, 8, MIN, MAX}) {
            Check.due("count(" + what + ")", x.count(what), TagReader.BAD);
        }
    }
}
