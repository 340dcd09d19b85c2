import java.util.ArrayList;
import java.util.HashMap;
import java.util.HashSet;
import java.util.List;
import java.util.Map;
import java.util.Set;

/** Trees by words of signs, as the document tells them: slow, and made unlike the program. */
final class PlainTrees {
    private static final Map<Integer, int[][]> BOUNDS = new HashMap<>();

    private PlainTrees() {
    }

    static String word(int number, int bits) {
        StringBuilder signs = new StringBuilder();
        for (int bit = bits - 1; bit >= 0; bit--) {
            signs.append(number >> bit & 1);
        }
        return signs.toString();
    }

    /** What is heard behind the beginning: signs 0, 1, X; null for nothing. */
    static String heard(Set<String> words, String beginning) {
        char[] signs = null;
        for (String word : words) {
            if (word.startsWith(beginning)) {
                char[] tail = word.substring(beginning.length()).toCharArray();
                signs = signs == null ? tail : together(signs, tail);
            }
        }
        return signs == null ? null : new String(signs);
    }

    private static char[] together(char[] one, char[] other) {
        for (int i = 0; i < one.length; i++) {
            one[i] = one[i] == other[i] ? one[i] : 'X';
        }
        return one;
    }

    /** The beginnings that are asked, in their order. */
    static List<String> asked(Set<String> words, boolean hearing) {
        List<String> asked = new ArrayList<>();
        ask(words, hearing, "", asked);
        return asked;
    }

    private static void ask(Set<String> words, boolean hearing, String beginning, List<String> asked) {
        asked.add(beginning);
        String heard = heard(words, beginning);
        if (heard == null || heard.indexOf('X') < 0) {
            return;
        }
        String longer = hearing ? beginning + heard.substring(0, heard.indexOf('X')) : beginning;
        ask(words, hearing, longer + "0", asked);
        ask(words, hearing, longer + "1", asked);
    }

    static int questions(int n, int blockerBits, int blocker, int[] numbers, boolean hearing) {
        Set<String> words = new HashSet<>();
        for (int number : numbers) {
            words.add(word(number, n));
        }
        words.addAll(beneath(n, blockerBits, blocker));
        return asked(words, hearing).size();
    }

    static Set<String> beneath(int n, int blockerBits, int blocker) {
        Set<String> words = new HashSet<>();
        for (int number = 0; number < 1 << n && blockerBits >= 0; number++) {
            if (word(number, n).startsWith(word(blocker, blockerBits))) {
                words.add(word(number, n));
            }
        }
        return words;
    }

    static int questionsOfSet(int n, int set, boolean hearing) {
        Set<String> words = new HashSet<>();
        for (int number = 0; number < 1 << n; number++) {
            if ((set >>> number & 1) == 1) {
                words.add(word(number, n));
            }
        }
        return asked(words, hearing).size();
    }

    static int[][] boundsOnce(int n, boolean hearing) {
        return BOUNDS.computeIfAbsent(hearing ? -n : n, key -> bounds(n, hearing));
    }

    /** For each m the most and the fewest questions, by trying every set. */
    private static int[][] bounds(int n, boolean hearing) {
        int[][] bounds = new int[(1 << n) + 1][2];
        for (int set = 0; set < 1 << (1 << n); set++) {
            int m = Integer.bitCount(set);
            int questions = questionsOfSet(n, set, hearing);
            bounds[m][0] = Math.max(bounds[m][0], questions);
            bounds[m][1] = bounds[m][1] == 0 ? questions : Math.min(bounds[m][1], questions);
        }
        return bounds;
    }
}
