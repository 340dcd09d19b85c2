/** Promises 15 to 19. */
public final class RulesTest {
    private static final int[] AT_FIRST = {8, 1, 64, 60, 200, 60, 50, 0, 20};

    public static void main(String[] args) {
        fed();
        ended();
        lines();
        bounds();
        unreadable();
        misplaced();
        twice();
        crossed();
        theFirstFault();
        whatStays();
        wrongRules();
        Check.finish("RulesTest");
    }

    private static void fed() {
        TagReader x = new TagReader();
        for (int i = 1; i <= 25; i++) {
            Check.due("feed " + i, x.feed(0x2020202020202020L), 8 * i);
        }
        Check.due("one more", x.feed(0), TagReader.FULL);
        Check.due("200", x.count(6), 200);
        x.end(193);
        Check.due("201 are too many", x.feed(0), TagReader.FULL);
        Check.due("nothing came", x.count(6), 193);
        x.end(192);
        Check.due("200 are not", x.feed(0x2020202020202020L), 200);
        Check.due("all blanks", x.rules(), 0);
        Check.due("empty then", x.count(6), 0);
        TagReader y = new TagReader();
        y.feed(0x6672616D65203537L);
        y.end(8);
        y.feed(0x3B20202020202020L);
        Check.due("the highest first", y.rules(), 1);
        Check.due("frame 57", y.rule(0), 57);
        TagReader z = new TagReader();
        z.feed(0x20202020202020FFL);
        Check.due("the last byte of eight", z.rules(), -17);
        z.feed(0xFF20202020202020L);
        Check.due("the first", z.rules(), -10);
    }

    private static void ended() {
        TagReader x = new TagReader();
        Check.due("of nothing", x.end(0), 0);
        Check.due("beyond nothing", x.end(1), TagReader.BAD);
        x.feed(0);
        for (int n : new int[] {-1, 9, Integer.MIN_VALUE, Integer.MAX_VALUE}) {
            Check.due("end(" + n + ")", x.end(n), TagReader.BAD);
        }
        Check.due("all stay", x.end(8), 8);
        Check.due("cut", x.end(3), 8);
        Check.due("cut again", x.end(3), 3);
        Check.due("beyond what is left", x.end(4), TagReader.BAD);
        Check.due("three", x.count(6), 3);
        Check.due("to nothing", x.end(0), 3);
        Check.due("nothing", x.count(6), 0);
    }

    private static void rulesAre(TagReader x, int... want) {
        for (int what = 0; what < 9; what++) {
            Check.due("rule(" + what + ")", x.rule(what), want[what]);
        }
    }

    private static void lines() {
        TagReader x = new TagReader();
        String text = "frame 9; least 2; most 33; grow 70 150; shrink 80 25; above 7; rounds 3;";
        Check.due("all lines", Check.tell(x, text), 7);
        Check.due("no fault", x.fault(), 0);
        rulesAre(x, 9, 2, 33, 70, 150, 80, 25, 7, 3);
        Check.due("one line tells all", Check.tell(x, "above 1;"), 1);
        rulesAre(x, 8, 1, 64, 60, 200, 60, 50, 1, 20);
        Check.due("in another order, dense", Check.tell(x, "rounds40;above99;grow1 400;most5;frame64;"), 5);
        rulesAre(x, 64, 1, 5, 1, 400, 60, 50, 99, 40);
        Check.due("blanks all over", Check.tell(x, "   frame   0012  ;   "), 1);
        rulesAre(x, 12, 1, 64, 60, 200, 60, 50, 0, 20);
        Check.due("no line", Check.tell(x, ""), 0);
        rulesAre(x, AT_FIRST);
        Check.due("least at most", Check.tell(x, "least 7; most 7;"), 2);
    }

    private static void faultIs(String text, int which, int place) {
        TagReader x = new TagReader();
        Check.due("\"" + text + "\"", Check.tell(x, text), -10 - place);
        Check.due("fault of \"" + text + "\"", x.fault(), which);
        Check.due("the tape is empty", x.count(6), 0);
        rulesAre(x, AT_FIRST);
    }

    private static void bounds() {
        String[] names = {"frame", "least", "most", "above", "rounds"};
        int[] least = {1, 1, 1, 0, 1};
        int[] most = {64, 64, 64, 99, 40};
        int[] rule = {0, 1, 2, 7, 8};
        for (int i = 0; i < names.length; i++) {
            int place = names[i].length() + 1;
            faultIs(names[i] + " " + (most[i] + 1) + ";", 3, place);
            faultIs(names[i] + " 9999;", 3, place);
            if (least[i] > 0) {
                faultIs(names[i] + " 0;", 3, place);
            }
            TagReader x = new TagReader();
            Check.due(names[i] + " greatest", Check.tell(x, names[i] + " " + most[i] + ";"), 1);
            Check.due("it holds", x.rule(rule[i]), most[i]);
            Check.due(names[i] + " least", Check.tell(x, names[i] + " " + least[i] + ";"), 1);
            Check.due("it holds too", x.rule(rule[i]), least[i]);
        }
        faultIs("grow 0 100;", 3, 5);
        faultIs("grow 101 100;", 3, 5);
        faultIs("grow 1 99;", 3, 7);
        faultIs("grow 1 401;", 3, 7);
        faultIs("shrink 0 50;", 3, 7);
        faultIs("shrink 101 50;", 3, 7);
        faultIs("shrink 1 9;", 3, 9);
        faultIs("shrink 1 101;", 3, 9);
        TagReader x = new TagReader();
        Check.due("edges", Check.tell(x, "grow 1 100;shrink 1 10;"), 2);
        rulesAre(x, 8, 1, 64, 1, 100, 1, 10, 0, 20);
        Check.due("other edges", Check.tell(x, "grow 100 400;shrink 100 100;"), 2);
        rulesAre(x, 8, 1, 64, 100, 400, 100, 100, 0, 20);
    }

    private static void unreadable() {
        faultIs("frame 8,", 1, 7);
        faultIs("Frame 8;", 1, 0);
        faultIs("frames 8;", 1, 0);
        faultIs("fram 8;", 1, 0);
        faultIs("xrame 8;", 1, 0);
        faultIs("framx 8;", 1, 0);
        faultIs("framegrow 8;", 1, 0);
        faultIs("frame x;", 1, 6);
        faultIs("frame 12345;", 1, 6);
        faultIs("frame 00008;", 1, 6);
        faultIs("frame 99999999999999999999;", 1, 6);
        faultIs("frame -1;", 1, 6);
        faultIs("  \t", 1, 2);
        faultIs("frame 8;\n", 1, 8);
        faultIs("frame 8;" + (char) 0, 1, 8);
        faultIs("frame 8;" + (char) 255, 1, 8);
        faultIs("frame 8;" + (char) ('a' + 128), 1, 8);
        faultIs("frame 8;" + (char) (' ' + 128), 1, 8);
        faultIs("`", 1, 0);
        faultIs("{", 1, 0);
        faultIs("/", 1, 0);
        faultIs(":", 1, 0);
    }

    private static void misplaced() {
        faultIs(";", 2, 0);
        faultIs("  5", 2, 2);
        faultIs("frame", 2, 5);
        faultIs("frame  ", 2, 7);
        faultIs("frame ;", 2, 6);
        faultIs("frame least", 2, 6);
        faultIs("frame 8", 2, 7);
        faultIs("frame 8  ", 2, 9);
        faultIs("frame 8 9;", 2, 8);
        faultIs("frame 8 least", 2, 8);
        faultIs("frame 8;;", 2, 8);
        faultIs("grow 60;", 2, 7);
        faultIs("grow 60", 2, 7);
        faultIs("shrink 60 50 5;", 2, 13);
        faultIs("least 1; 8", 2, 9);
    }

    private static void twice() {
        String[] each = {"frame 9;", "least 9;", "most 9;", "grow 9 100;", "shrink 9 10;", "above 9;", "rounds 9;"};
        for (String line : each) {
            faultIs(line + line, 4, line.length());
            faultIs(line + " " + line.substring(0, line.indexOf(' ')), 4, line.length() + 1);
        }
        faultIs("most 9; above 1; most x", 4, 17);
    }

    private static void crossed() {
        faultIs("least 9; most 8;", 5, 16);
        faultIs("most 8; least 9;  ", 5, 18);
        TagReader x = new TagReader();
        Check.due("least alone", Check.tell(x, "least 64;"), 1);
        Check.due("most alone", Check.tell(x, "most 1;"), 1);
        Check.due("what held does not count", x.rule(1), 1);
    }

    private static void theFirstFault() {
        faultIs("frame 0 x", 3, 6);
        faultIs("frame 0", 3, 6);
        faultIs("frame 8 x 0", 1, 8);
        faultIs("least 9; most 8; frame", 2, 22);
        faultIs("frame 8; frame 0 ,", 4, 9);
        faultIs("grow 0 0;", 3, 5);
        faultIs("grow 60 x;", 1, 8);
        faultIs("8 ,", 2, 0);
        faultIs(", 8", 1, 0);
    }

    private static void whatStays() {
        TagReader x = new TagReader();
        Check.tell(x, "frame 9; above 3;");
        Check.due("a fault", Check.tell(x, "frame 7; least 0;"), -25);
        Check.due("which", x.fault(), 3);
        Check.due("is asked again", x.fault(), 3);
        rulesAre(x, 9, 1, 64, 60, 200, 60, 50, 3, 20);
        Check.due("the tape is empty", x.count(6), 0);
        Check.due("so nothing is told", x.rules(), 0);
        Check.due("without fault", x.fault(), 0);
        rulesAre(x, AT_FIRST);
        Check.tell(x, "x");
        Check.due("fault 1", x.fault(), 1);
        x.feed(0);
        x.end(0);
        x.bits(4);
        Check.due("stays until rules()", x.fault(), 1);
    }

    private static void wrongRules() {
        TagReader x = new TagReader();
        for (int what : new int[] {-1, 9, Integer.MIN_VALUE, Integer.MAX_VALUE}) {
            Check.due("rule(" + what + ")", x.rule(what), TagReader.BAD);
        }
    }
}
