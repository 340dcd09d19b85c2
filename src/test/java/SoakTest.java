import java.util.ArrayList;
import java.util.Collections;
import java.util.List;
import java.util.Random;
import java.util.Set;
import java.util.TreeSet;

/** Any calls with numbers about their bounds: the program answers as the plain one does; each refusal comes about. */
public final class SoakTest {
    private static final int OBJECTS = 1200;
    private static final int MOST_CALLS = 512;
    private static final String[] COMMON = {"tag", "tag", "tag", "tag", "know", "know", "lay", "lay", "lay", "lay",
        "sheet", "read", "read", "hush", "block", "tree", "wake", "frame", "all"};
    private static final String[] NAMES = {"bits", "tag", "of", "hush", "wake", "block", "ask", "tree", "grown",
        "heard", "learns", "would", "most", "feed", "end", "rules", "fault", "rule", "slot", "frame", "shown",
        "all", "went", "alone", "mean", "best", "guess", "ways", "know", "forget", "missing", "seen", "seed",
        "sheet", "lay", "read", "torn", "count"};
    private static final String[] LINES = {"frame", "least", "most", "grow", "shrink", "above", "rounds"};
    private static final int[] LINE_BOUNDS = {0, 1, 2, 9, 10, 11, 40, 41, 60, 64, 65, 99, 100, 101, 400, 401, 9999,
        10000};

    private static final Set<String> MET = new TreeSet<>();

    public static void main(String[] args) {
        for (int seed = 0; seed < OBJECTS && Check.isAllRight(); seed++) {
            soak(new Random(seed), seed % 2 == 0);
        }
        refusalsWereMet();
        Check.finish("SoakTest");
    }

    private static void soak(Random random, boolean toTheEnd) {
        TagReader x = new TagReader();
        PlainReader plain = new PlainReader();
        int left = toTheEnd ? MOST_CALLS : MOST_CALLS - Look.calls().size();
        List<Call> made = new ArrayList<>();
        while (left > 0 && Check.isAllRight()) {
            List<Call> next = next(plain, random);
            for (int i = 0; i < next.size() && left > 0; i++) {
                made.add(next.get(i));
                compare(x, plain, next.get(i));
                left--;
            }
        }
        for (int i = 0; i < Look.calls().size() && !toTheEnd && Check.isAllRight(); i++) {
            made.add(Look.calls().get(i));
            compare(x, plain, Look.calls().get(i));
        }
        if (!Check.isAllRight()) {
            System.out.println(made);
        }
    }

    private static void compare(TagReader x, PlainReader plain, Call call) {
        long want = call.on(plain);
        Check.due(call.toString(), call.on(x), want);
        MET.add(want < 0 ? call.name() + " " + want : call.name());
    }

    private static List<Call> next(PlainReader plain, Random random) {
        if (random.nextInt(400) == 0) {
            return Collections.nCopies(26, new Call("feed", random.nextLong()));
        }
        int kind = random.nextInt(20);
        if (kind == 0) {
            return typed(text(random));
        }
        String name = kind < 8 ? COMMON[random.nextInt(COMMON.length)] : NAMES[random.nextInt(NAMES.length)];
        // What takes much away is made less often, so that more comes together.
        boolean takesAway = name.equals("bits") || name.equals("forget");
        if (takesAway && random.nextInt(3) > 0) {
            return List.of();
        }
        int[][] bounds = bounds(plain, name);
        Object[] arguments = new Object[bounds.length];
        for (int i = 0; i < bounds.length; i++) {
            arguments[i] = number(random, bounds[i][0], bounds[i][1]);
        }
        if (name.equals("hush")) {
            arguments[1] = random.nextBoolean();
        }
        if (name.equals("feed")) {
            arguments[0] = random.nextBoolean() ? 0x2020202020202020L : random.nextLong();
        }
        return List.of(new Call(name, arguments));
    }

    /** The bounds of each argument as they stand now. */
    private static int[][] bounds(PlainReader plain, String name) {
        int n = plain.count(0);
        int[] number = {0, (1 << n) - 1};
        int[] any = {Integer.MIN_VALUE + 100, Integer.MAX_VALUE - 100};
        int[] bit = {0, 1};
        int[] tag = {0, plain.count(1) - 1};
        int[] slots = {1, 64};
        int[] twelve = {1, 12};
        return switch (name) {
            case "bits" -> new int[][] {{2, 12}};
            case "tag" -> new int[][] {number, {1, 99}};
            case "of" -> new int[][] {tag, {0, 2}};
            case "hush" -> new int[][] {tag, bit};
            case "block" -> new int[][] {number, {-1, n}};
            case "ask" -> new int[][] {{0, n}, {0, 3}, {0, 2}};
            case "tree" -> new int[][] {bit};
            case "grown", "shown" -> new int[][] {{0, 4}};
            case "heard" -> new int[][] {{0, plain.count(4) - 1}, bit};
            case "learns", "know" -> new int[][] {number};
            case "would" -> new int[][] {bit, n < 5 ? new int[] {0, (1 << (1 << n)) - 1} : any};
            case "most" -> new int[][] {bit, {0, 1 << Math.min(n, 4)}, bit};
            case "feed" -> new int[][] {any};
            case "end" -> new int[][] {{0, plain.count(6)}};
            case "rule" -> new int[][] {{0, 8}};
            case "slot" -> new int[][] {number, slots, any};
            case "frame", "seen", "seed" -> new int[][] {slots, any};
            case "all" -> new int[][] {any};
            case "went" -> new int[][] {{0, 3}};
            case "alone" -> new int[][] {twelve, twelve, {0, 12}, bit};
            case "mean" -> new int[][] {twelve, twelve, bit};
            case "best" -> new int[][] {{1, 5}};
            case "guess" -> new int[][] {{0, 3}, {0, 3}, {0, 3}};
            case "ways" -> new int[][] {{0, 16}, {0, 3}, {0, 3}, {0, 3}};
            case "missing" -> new int[][] {{1, 30}, any, {0, 511}};
            case "sheet" -> new int[][] {{0, 3}, {0, 2}, {0, 40}};
            case "lay" -> new int[][] {{0, 3}, {0, 10}, {1, 99}};
            case "read" -> new int[][] {{0, 3}, {0, 2}, {0, 8}, {0, 16}};
            case "count" -> new int[][] {{0, 7}};
            default -> new int[0][];
        };
    }

    private static int number(Random random, int least, int most) {
        switch (random.nextInt(40)) {
            case 0:
                return least - 1;
            case 1:
                return most + 1;
            case 2:
                return least;
            case 3:
                return most;
            case 4:
                return random.nextBoolean() ? Integer.MIN_VALUE : Integer.MAX_VALUE;
            case 5:
                return random.nextInt();
            default:
                return (int) (least + Math.floorMod(random.nextLong(), Math.max(1, 1L + most - least)));
        }
    }

    private static String text(Random random) {
        StringBuilder text = new StringBuilder();
        int lines = random.nextInt(5);
        for (int i = 0; i < lines; i++) {
            int line = random.nextInt(LINES.length);
            text.append(LINES[line]).append(" ".repeat(random.nextInt(3))).append(figures(random));
            if (line == 3 || line == 4 || random.nextInt(20) == 0) {
                text.append(' ').append(random.nextInt(3) == 0 ? figures(random) : 100);
            }
            text.append(";".repeat(random.nextInt(25) == 0 ? random.nextInt(3) : 1));
            text.append(random.nextInt(25) == 0 ? (char) random.nextInt(256) : ' ');
        }
        return text.toString();
    }

    private static int figures(Random random) {
        return random.nextInt(4) == 0 ? LINE_BOUNDS[random.nextInt(LINE_BOUNDS.length)] : 1 + random.nextInt(40);
    }

    private static List<Call> typed(String text) {
        List<Call> calls = new ArrayList<>();
        calls.add(new Call("end", 0));
        for (int i = 0; i < text.length(); i += 8) {
            long eight = 0;
            for (int j = i; j < i + 8; j++) {
                eight = eight << 8 | (j < text.length() ? text.charAt(j) & 255 : ' ');
            }
            calls.add(new Call("feed", eight));
        }
        calls.add(new Call("end", text.length()));
        calls.add(new Call("rules"));
        calls.add(new Call("fault"));
        return calls;
    }

    private static void refusalsWereMet() {
        String[] refusals = {"bits -1", "tag -1", "tag -3", "of -1", "hush -1", "block -1", "ask -1", "tree -1",
            "tree -6", "grown -1", "grown -2", "heard -1", "learns -1", "learns -2", "would -1", "most -1",
            "feed -3", "end -1", "rules -10", "rule -1", "slot -1", "frame -1", "shown -1", "shown -2", "all -6",
            "went -1", "went -2", "alone -1", "mean -1", "best -1", "guess -1", "ways -1", "know -1", "know -3",
            "missing -1", "seen -1", "sheet -1", "sheet -14", "lay -1", "lay -11", "lay -12", "read -1",
            "read -20", "read -21", "read -3", "count -1", "count -4"};
        for (String refusal : refusals) {
            Check.holds(refusal + " was met", MET.contains(refusal));
        }
        for (String name : NAMES) {
            Check.holds(name + " was answered", MET.contains(name));
        }
    }
}
