import java.util.ArrayList;
import java.util.List;

/** Calls that show all that an object holds; what can't be asked is seen by what later calls do, so it is used up. */
final class Look {
    private static final List<Call> CALLS = made();

    private Look() {
    }

    static List<Call> calls() {
        return CALLS;
    }

    private static List<Call> made() {
        List<Call> calls = new ArrayList<>();
        asked(calls);
        tagsAndQuestions(calls);
        knownOnes(calls);
        rules(calls);
        framesAndTrees(calls);
        for (int k = 0; k < 4; k++) {
            cells(calls, k, 0, 5);
            cells(calls, k, 35, 2);
        }
        return calls;
    }

    private static void each(List<Call> calls, String name, int most) {
        for (int what = 0; what <= most; what++) {
            calls.add(new Call(name, what));
        }
    }

    private static void asked(List<Call> calls) {
        each(calls, "count", 7);
        each(calls, "rule", 8);
        each(calls, "grown", 4);
        each(calls, "shown", 4);
        each(calls, "went", 3);
        calls.add(new Call("fault"));
        calls.add(new Call("torn"));
    }

    private static void tagsAndQuestions(List<Call> calls) {
        for (int t = 0; t < 16; t++) {
            for (int what = 0; what < 3; what++) {
                calls.add(new Call("of", t, what));
            }
        }
        for (int i = 0; i < 64; i++) {
            calls.add(new Call("heard", i, 1));
        }
        for (int i = 1; i < 64; i += 9) {
            calls.add(new Call("heard", i, 0));
        }
        for (int number = 0; number < 4; number++) {
            calls.add(new Call("learns", number));
        }
        for (int what = 0; what < 3; what++) {
            calls.add(new Call("ask", 0, 0, what));
            calls.add(new Call("ask", 1, 0, what));
            calls.add(new Call("ask", 2, 3, what));
        }
    }

    private static void knownOnes(List<Call> calls) {
        for (int seed = 0; seed < 4; seed++) {
            calls.add(new Call("missing", 30, seed, 0x15555555));
            calls.add(new Call("seen", 16, seed));
        }
        calls.add(new Call("seed", 9, 0));
    }

    private static void rules(List<Call> calls) {
        calls.add(new Call("rules"));
        calls.add(new Call("fault"));
        calls.add(new Call("count", 6));
        each(calls, "rule", 8);
    }

    private static void framesAndTrees(List<Call> calls) {
        calls.add(new Call("frame", 13, 1));
        each(calls, "shown", 4);
        calls.add(new Call("wake"));
        calls.add(new Call("all", 1));
        each(calls, "went", 3);
        calls.add(new Call("wake"));
        calls.add(new Call("tree", 1));
        each(calls, "grown", 4);
        calls.add(new Call("wake"));
        calls.add(new Call("tree", 0));
        each(calls, "grown", 4);
        calls.add(new Call("forget"));
    }

    private static void cells(List<Call> calls, int k, int from, int tags) {
        calls.add(new Call("bits", 12));
        for (int lane = 0; lane < 3; lane++) {
            calls.add(new Call("read", k, lane, from, tags));
            calls.add(new Call("torn"));
        }
        for (int t = 0; t < tags; t++) {
            calls.add(new Call("of", t, 0));
            calls.add(new Call("of", t, 1));
        }
    }
}
