import java.math.BigInteger;
import java.util.Arrays;
import java.util.HashMap;
import java.util.Map;

/** Ways in which TAGS lie in SLOTS, counted one SLOT behind another. */
final class PlainOdds {
    private static final Map<Integer, BigInteger[][]> COUNTED = new HashMap<>();

    private PlainOdds() {
    }

    /** In how many ways m TAGS lie in f SLOTS, so that a are alone and c clash; any a and c. */
    static BigInteger ways(int f, int m, int a, int c) {
        BigInteger[][] found = COUNTED.computeIfAbsent(100 * f + m, key -> counted(f, m));
        return a < found.length && c < found[a].length ? found[a][c] : BigInteger.ZERO;
    }

    static BigInteger waysWithAlone(int f, int m, int a) {
        BigInteger sum = BigInteger.ZERO;
        for (int c = 0; c <= m; c++) {
            sum = sum.add(ways(f, m, a, c));
        }
        return sum;
    }

    /** The sum over all ways of those that are alone: MEAN is this by f^m. */
    static BigInteger aloneInAllWays(int f, int m) {
        BigInteger sum = BigInteger.ZERO;
        for (int a = 0; a <= m; a++) {
            sum = sum.add(waysWithAlone(f, m, a).multiply(BigInteger.valueOf(a)));
        }
        return sum;
    }

    static BigInteger choose(int from, int some) {
        return factorial(from).divide(factorial(some).multiply(factorial(from - some)));
    }

    private static BigInteger factorial(int v) {
        return v < 2 ? BigInteger.ONE : factorial(v - 1).multiply(BigInteger.valueOf(v));
    }

    private static BigInteger[][] counted(int f, int m) {
        BigInteger[][][] ways = nothing(m);
        ways[0][0][0] = BigInteger.ONE;
        for (int slot = 0; slot < f; slot++) {
            BigInteger[][][] next = nothing(m);
            for (int used = 0; used <= m; used++) {
                for (int a = 0; a <= used; a++) {
                    for (int c = 0; a + 2 * c <= used; c++) {
                        addSlot(next, used, a, c, ways[used][a][c]);
                    }
                }
            }
            ways = next;
        }
        return ways[m];
    }

    private static void addSlot(BigInteger[][][] next, int used, int a, int c, BigInteger ways) {
        int m = next.length - 1;
        for (int here = 0; ways.signum() > 0 && here + used <= m; here++) {
            BigInteger[] row = next[used + here][here == 1 ? a + 1 : a];
            int clash = here > 1 ? c + 1 : c;
            row[clash] = row[clash].add(ways.multiply(choose(m - used, here)));
        }
    }

    private static BigInteger[][][] nothing(int m) {
        BigInteger[][][] ways = new BigInteger[m + 1][m + 1][m / 2 + 1];
        for (BigInteger[][] plane : ways) {
            for (BigInteger[] row : plane) {
                Arrays.fill(row, BigInteger.ZERO);
            }
        }
        return ways;
    }
}
