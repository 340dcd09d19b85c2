/** What the tests share: answers are compared, wrong ones printed, and told by the exit code. */
final class Check {
    private static final int MOST_PRINTED = 50;
    private static int compared = 0;
    private static int wrong = 0;

    private Check() {
    }

    static void due(String call, long got, long want) {
        compared++;
        if (got != want) {
            wrong++;
            if (wrong <= MOST_PRINTED) {
                System.out.println(call + " answered " + got + ", due is " + want);
            }
        }
    }

    static void holds(String what, boolean is) {
        due(what, is ? 1 : 0, 1);
    }

    static boolean isAllRight() {
        return wrong == 0;
    }

    static void finish(String test) {
        System.out.println(test + ": " + compared + " answers compared, " + wrong + " wrong");
        if (wrong != 0 || compared == 0) {
            System.exit(1);
        }
    }

    /** Puts a text on THE TAPE, which takes eight bytes at a time, and cuts off what is too much. */
    static void type(TagReader reader, String text) {
        int before = reader.count(6);
        for (int i = 0; i < text.length(); i += 8) {
            long eight = 0;
            for (int j = i; j < i + 8; j++) {
                eight = eight << 8 | (j < text.length() ? text.charAt(j) & 255 : ' ');
            }
            reader.feed(eight);
        }
        reader.end(before + text.length());
    }

    static int tell(TagReader reader, String text) {
        type(reader, text);
        return reader.rules();
    }
}
