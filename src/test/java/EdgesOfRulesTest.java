/** Promises 15 to 19, sentence by sentence: the bounds, the empty and the full, what is refused. */
public final class EdgesOfRulesTest {
    private static final int MIN = Integer.MIN_VALUE;
    private static final int MAX = Integer.MAX_VALUE;
    private static final int[] AT_FIRST = {8, 1, 64, 60, 200, 60, 50, 0, 20};
    private static final int[] TOLD = {9, 2, 33, 70, 150, 80, 25, 7, 3};
    private static final String TELLS = "frame 9; least 2; most 33; grow 70 150; shrink 80 25; above 7; rounds 3;";

    public static void main(String[] args) {
        eightBytesEachTime();
        theHighestByteFirst();
        longsAtTheirEnds();
        moreThanTwoHundred();
        endKeepsTheFirst();
        endRefused();
        anEmptyTape();
        aFullTape();
        faultsAtTheLastPlace();
        theTapeIsEmptyThen();
        boundsOfEachNumber();
        namesAreAToZ();
        numbersAreOneToFourFigures();
        blanksAreThirtyTwo();
        tokensAsLongAsMayBe();
        noToken();
        aTokenThatCanNotStandThere();
        theEndThatCanNotStandThere();
        outOfBoundsAheadOfWhatFollows();
        aLineForTheSecondTime();
        leastAboveMost();
        leastAboveMostComesBehindAll();
        howManyLines();
        aTextTellsAllRules();
        thoseThatWereToldStay();
        theFaultOfTheLatest();
        ruleRefused();
        Check.finish("EdgesOfRulesTest");
    }

    private static void rulesAre(TagReader x, int... want) {
        for (int what = 0; what < 9; what++) {
            Check.due("rule(" + what + ")", x.rule(what), want[what]);
        }
    }

    private static void taken(String text, int lines) {
        TagReader x = new TagReader();
        Check.due("\"" + text + "\"", Check.tell(x, text), lines);
        Check.due("no FAULT", x.fault(), 0);
        Check.due("the tape is empty", x.count(6), 0);
    }

    /** Refused at this place with this FAULT; what was told ahead of it stays. */
    private static void refused(String text, int which, int place) {
        TagReader x = new TagReader();
        Check.tell(x, TELLS);
        Check.due("\"" + text + "\"", Check.tell(x, text), -10 - place);
        Check.due("FAULT of \"" + text + "\"", x.fault(), which);
        Check.due("the tape is empty", x.count(6), 0);
        rulesAre(x, TOLD);
    }

    /** "Eight bytes come behind THE TAPE ..: how many it has." */
    private static void eightBytesEachTime() {
        TagReader x = new TagReader();
        Check.due("none at first", x.count(6), 0);
        for (int i = 1; i <= 25; i++) {
            Check.due("feed", x.feed(0), 8 * i);
            Check.due("count", x.count(6), 8 * i);
        }
        TagReader y = new TagReader();
        y.feed(0);
        y.end(3);
        Check.due("behind what is left", y.feed(0), 11);
    }

    /** "the highest first". */
    private static void theHighestByteFirst() {
        for (int place = 0; place < 8; place++) {
            TagReader x = new TagReader();
            x.feed(0x2020202020202020L ^ 1L << 56 - 8 * place);
            Check.due("byte " + place, x.rules(), -10 - place);
            x.feed(0x2020202020202020L);
            x.feed(0x2020202020202020L ^ 1L << 56 - 8 * place);
            Check.due("byte " + (8 + place), x.rules(), -18 - place);
        }
    }

    private static void longsAtTheirEnds() {
        for (long v : new long[] {0, -1, 1, Long.MIN_VALUE, Long.MAX_VALUE, Long.MIN_VALUE + 1}) {
            TagReader x = new TagReader();
            Check.due("feed(" + v + ")", x.feed(v), 8);
            Check.due("no TOKEN at all", x.rules(), -10);
            Check.due("FAULT", x.fault(), 1);
        }
    }

    /** "THE TAPE has 200 bytes"; "FULL: more than 200". */
    private static void moreThanTwoHundred() {
        Twins.refused("208", Twins::makeFull, x -> x.feed(0x2020202020202020L), TagReader.FULL);
        for (int left = 193; left <= 200; left++) {
            TagReader x = new TagReader();
            Check.type(x, TELLS + " ".repeat(200 - TELLS.length()));
            x.end(left);
            Check.due("from " + left, x.feed(-1), TagReader.FULL);
            Check.due("none came", x.count(6), left);
            Check.due("what was there is", x.rules(), 7);
        }
        TagReader x = new TagReader();
        Check.type(x, " ".repeat(192));
        Check.due("from 192", x.feed(0), 200);
        Check.due("the first that came is at 192", x.rules(), -202);
    }

    /** "THE TAPE keeps its first n bytes: how many it had." */
    private static void endKeepsTheFirst() {
        TagReader x = new TagReader();
        Check.due("of none", x.end(0), 0);
        Check.type(x, " ".repeat(192) + "frame 7;");
        Check.due("all", x.end(200), 200);
        Check.due("all but one", x.end(199), 200);
        Check.due("the ; is gone", x.rules(), -209);
        Check.type(x, "frame 77;");
        Check.due("eight", x.end(8), 9);
        Check.due("seven", x.end(7), 8);
        x.feed(0x3B20202020202020L);
        Check.due("what comes then is behind the seven", x.rules(), 1);
        Check.due("frame 7", x.rule(0), 7);
        x.feed(0);
        Check.due("none", x.end(0), 8);
        Check.due("none is left", x.end(0), 0);
    }

    private static void endRefused() {
        for (int n : new int[] {-1, 201, MIN, MAX}) {
            Twins.refused("end(" + n + ")", x -> x.end(n), TagReader.BAD);
        }
        Twins.refused("one above none", x -> { }, x -> x.end(1), TagReader.BAD);
        Twins.refused("one above what is there", Twins::makeRich, x -> x.end(19), TagReader.BAD);
        TagReader x = new TagReader();
        Check.type(x, "frame 7;");
        x.end(2);
        Check.due("what was cut does not come again", x.end(8), TagReader.BAD);
    }

    private static void anEmptyTape() {
        TagReader x = new TagReader();
        Check.due("no line", x.rules(), 0);
        rulesAre(x, AT_FIRST);
        taken("", 0);
        taken(" ", 0);
        taken(" ".repeat(200), 0);
    }

    private static void aFullTape() {
        String ahead = " ".repeat(200 - TELLS.length());
        TagReader x = new TagReader();
        Check.due("blanks ahead", Check.tell(x, ahead + TELLS), 7);
        rulesAre(x, TOLD);
        TagReader y = new TagReader();
        Check.due("blanks behind", Check.tell(y, TELLS + ahead), 7);
        rulesAre(y, TOLD);
    }

    private static void faultsAtTheLastPlace() {
        refused(" ".repeat(199) + "x", 1, 199);
        refused(" ".repeat(199) + ";", 2, 199);
        refused("frame" + " ".repeat(194) + "0", 3, 199);
        refused("frame" + " ".repeat(194) + "8", 2, 200);
        refused("frame 8;" + " ".repeat(187) + "frame", 4, 195);
        refused("least 9;most 8;" + " ".repeat(185), 5, 200);
    }

    /** "THE TAPE (empty then)". */
    private static void theTapeIsEmptyThen() {
        TagReader x = new TagReader();
        Check.type(x, "frame 5;");
        x.rules();
        Check.due("when it was taken", x.count(6), 0);
        Check.due("nothing can be kept", x.end(1), TagReader.BAD);
        Check.type(x, "frame 0;");
        x.rules();
        Check.due("when it was not", x.count(6), 0);
        Check.due("room for all again", x.feed(0), 8);
    }

    private static void boundsOfEachNumber() {
        bound("frame %d;", 6, 0, 1, 64);
        bound("least %d;", 6, 1, 1, 64);
        bound("most %d;", 5, 2, 1, 64);
        bound("grow %d 200;", 5, 3, 1, 100);
        bound("grow 60 %d;", 8, 4, 100, 400);
        bound("shrink %d 50;", 7, 5, 1, 100);
        bound("shrink 60 %d;", 10, 6, 10, 100);
        bound("above %d;", 6, 7, 0, 99);
        bound("rounds %d;", 7, 8, 1, 40);
    }

    private static void bound(String line, int place, int rule, int least, int most) {
        for (int value : new int[] {least, most}) {
            TagReader x = new TagReader();
            Check.due(line, Check.tell(x, String.format(line, value)), 1);
            int[] want = AT_FIRST.clone();
            want[rule] = value;
            rulesAre(x, want);
        }
        if (least > 0) {
            refused(String.format(line, least - 1), 3, place);
            refused(String.format(line, 0), 3, place);
        }
        refused(String.format(line, most + 1), 3, place);
        refused(String.format(line, 9999), 3, place);
        refused(String.format(line, 10000), 1, place);
    }

    /** "NAMES (a .. z)". */
    private static void namesAreAToZ() {
        for (int sign : new int[] {'a' - 1, 'z' + 1, 'A', 'Z', 'a' + 128, 'z' + 128}) {
            refused("frame 8;" + (char) sign, 1, 8);
            refused("frame" + (char) sign + "8;", 1, 5);
        }
        for (String name : new String[] {"frame", "least", "most", "grow", "shrink", "above", "rounds"}) {
            for (int i = 0; i < name.length(); i++) {
                refused(name.substring(0, i) + "z" + name.substring(i + 1) + " 8;", 1, 0);
            }
        }
        refused("a", 1, 0);
        refused("z", 1, 0);
        refused("framea 8;", 1, 0);
        refused("framez 8;", 1, 0);
        refused("aframe 8;", 1, 0);
        refused("fra me 8;", 1, 0);
        refused("FRAME 8;", 1, 0);
        refused("rounds 8;round 8;", 1, 9);
        refused(" " + "z".repeat(199), 1, 1);
    }

    /** "NUMBERS (1 to 4 figures)"; "a NUMBER that is too long (its first byte)". */
    private static void numbersAreOneToFourFigures() {
        for (int sign : new int[] {'0' - 1, '9' + 1, '0' + 128, '9' + 128}) {
            refused("frame " + (char) sign, 1, 6);
            refused("frame 8" + (char) sign, 1, 7);
        }
        taken("frame 1;", 1);
        taken("frame 01;", 1);
        taken("frame 001;", 1);
        taken("frame 0001;", 1);
        taken("frame 0064;", 1);
        refused("frame 00001;", 1, 6);
        refused("frame 0000;", 3, 6);
        refused("frame 00000;", 1, 6);
        refused("frame 4294967297;", 1, 6);
        refused("frame" + "1".repeat(195), 1, 5);
        refused("12345", 1, 0);
        refused("1234", 2, 0);
        taken("above 0;", 1);
        taken("above 0000;", 1);
    }

    /** "blanks (32) between". */
    private static void blanksAreThirtyTwo() {
        for (int sign : new int[] {0, 9, 10, 13, 31, 33, 32 + 128, 255}) {
            refused("frame" + (char) sign + "8;", 1, 5);
            refused("frame 8" + (char) sign + ";", 1, 7);
            refused("frame 8;" + (char) sign, 1, 8);
            refused((char) sign + "frame 8;", 1, 0);
        }
        taken("frame 8;least 1;", 2);
        taken("frame8;", 1);
        taken("  frame   8   ;   ", 1);
    }

    /** "TOKENS, each as long as may be". */
    private static void tokensAsLongAsMayBe() {
        refused("frameleast 8;", 1, 0);
        refused("grow 60200;", 1, 5);
        refused("grow 6020;", 3, 5);
        taken("grow 60 200;", 1);
        refused("grow 6 0 200;", 3, 7);
        taken("frame 8;least 8;", 2);
        refused("frame 8;;", 2, 8);
    }

    private static void noToken() {
        refused("-", 1, 0);
        refused("frame -8;", 1, 6);
        refused("frame 8,", 1, 7);
        refused("frame 8; .", 1, 9);
        refused("" + (char) 0, 1, 0);
        refused("" + (char) 255, 1, 0);
    }

    private static void aTokenThatCanNotStandThere() {
        refused(";", 2, 0);
        refused("8", 2, 0);
        refused("frame 8; 8", 2, 9);
        refused("frame 8; ;", 2, 9);
        refused("frame ;", 2, 6);
        refused("frame frame 8;", 2, 6);
        refused("frame 8 8;", 2, 8);
        refused("frame 8 least", 2, 8);
        refused("grow 60;", 2, 7);
        refused("grow 60 least", 2, 8);
        refused("grow 60 200 0;", 2, 12);
        refused("shrink 60;", 2, 9);
        refused("shrink 60 50 50;", 2, 13);
    }

    /** "(or the end: the length)". */
    private static void theEndThatCanNotStandThere() {
        refused("frame", 2, 5);
        refused("frame ", 2, 6);
        refused("frame 8", 2, 7);
        refused("frame 8   ", 2, 10);
        refused("grow 60", 2, 7);
        refused("grow 60 200", 2, 11);
        refused("frame 8; least", 2, 14);
    }

    /** "(a TOKEN is read when the one before has been taken)". */
    private static void outOfBoundsAheadOfWhatFollows() {
        refused("frame 0 -", 3, 6);
        refused("frame 0", 3, 6);
        refused("grow 0 0;", 3, 5);
        refused("grow 1 0 0;", 3, 7);
        refused("frame 8; frame -", 4, 9);
        refused("frame 8 -; frame", 1, 8);
        refused("frame 99999 -", 1, 6);
        refused("; -", 2, 0);
    }

    /** "4 a line of that NAME for the second time (it)". */
    private static void aLineForTheSecondTime() {
        String[] each = {"frame 9;", "least 9;", "most 9;", "grow 9 100;", "shrink 9 10;", "above 9;", "rounds 9;"};
        for (String line : each) {
            refused(line + line, 4, line.length());
            refused(line + "  " + line.replaceAll("[0-9; ]", ""), 4, line.length() + 2);
            refused(String.join("", each) + line, 4, String.join("", each).length());
        }
        refused("frame 8; least", 2, 14);
        refused("frame 8; frame x", 4, 9);
    }

    /** "5 least is above most (the length)". */
    private static void leastAboveMost() {
        taken("least 8; most 8;", 2);
        refused("least 9; most 8;", 5, 16);
        refused("most 8; least 9; ", 5, 17);
        taken("least 1; most 1;", 2);
        taken("least 64; most 64;", 2);
        refused("least 64; most 1;", 5, 17);
        taken("least 64;", 1);
        taken("most 1;", 1);
        TagReader x = new TagReader();
        Check.due("least 9", Check.tell(x, "least 9;"), 1);
        Check.due("what held ahead of it is not looked at", Check.tell(x, "most 8;"), 1);
        rulesAre(x, 8, 1, 8, 60, 200, 60, 50, 0, 20);
    }

    /** "Behind all". */
    private static void leastAboveMostComesBehindAll() {
        refused("least 9; most 8; x", 1, 17);
        refused("least 9; most 8; ;", 2, 17);
        refused("least 9; most 8; frame 0;", 3, 23);
        refused("least 9; most 8; least 1;", 4, 17);
        refused("least 9; most 8", 2, 15);
    }

    private static void howManyLines() {
        taken("frame 8;", 1);
        taken("grow 60 200;", 1);
        taken("frame 8;least 1;most 64;grow 60 200;shrink 60 50;above 0;", 6);
        taken("rounds 20;frame 8;least 1;most 64;grow 60 200;shrink 60 50;above 0;", 7);
    }

    /** "A text that is taken tells all RULES." */
    private static void aTextTellsAllRules() {
        TagReader x = new TagReader();
        Check.tell(x, TELLS);
        rulesAre(x, TOLD);
        Check.due("one line", Check.tell(x, "rounds 40;"), 1);
        rulesAre(x, 8, 1, 64, 60, 200, 60, 50, 0, 40);
        Check.tell(x, TELLS);
        Check.due("no line", Check.tell(x, ""), 0);
        rulesAre(x, AT_FIRST);
    }

    private static void thoseThatWereToldStay() {
        String[] faulty = {"frame 1;-", "frame 1;;", "frame 1; least 0;", "frame 1;frame 1;",
            "frame 1;least 2;most 1;"};
        for (int i = 0; i < faulty.length; i++) {
            TagReader x = new TagReader();
            Check.tell(x, faulty[i]);
            Check.due("FAULT", x.fault(), i + 1);
            rulesAre(x, AT_FIRST);
            Check.tell(x, TELLS);
            Check.tell(x, faulty[i]);
            Check.due("FAULT again", x.fault(), i + 1);
            rulesAre(x, TOLD);
            Check.due("and none of the text that was refused is in the next", Check.tell(x, "above 3;"), 1);
            rulesAre(x, 8, 1, 64, 60, 200, 60, 50, 3, 20);
        }
    }

    /** "The FAULT of the latest rules(); 0." */
    private static void theFaultOfTheLatest() {
        TagReader x = new TagReader();
        Check.due("none yet", x.fault(), 0);
        Check.tell(x, "-");
        Check.due("1", x.fault(), 1);
        Check.type(x, "frame 8;");
        Check.due("1 till the next", x.fault(), 1);
        x.bits(3);
        Check.due("1 after bits() too", x.fault(), 1);
        x.rules();
        Check.due("0 then", x.fault(), 0);
        Check.tell(x, ";");
        Check.due("2", x.fault(), 2);
        x.rules();
        Check.due("0 of the empty one", x.fault(), 0);
        Twins.onlyAsks("fault()", TagReader::fault);
    }

    private static void ruleRefused() {
        for (int what : new int[] {-1, 9, MIN, MAX}) {
            Twins.refused("rule(" + what + ")", x -> x.rule(what), TagReader.BAD);
        }
        Twins.onlyAsks("rule(0)", x -> x.rule(0));
        Twins.onlyAsks("rule(8)", x -> x.rule(8));
    }
}
