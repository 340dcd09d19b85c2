import java.math.BigInteger;

/** Promises 25 to 29. */
public final class OddsTest {
    private static final int MIN = Integer.MIN_VALUE;
    private static final int MAX = Integer.MAX_VALUE;

    public static void main(String[] args) {
        aloneByTrying();
        aloneByCounting();
        aloneWrongly();
        means();
        meansWrongly();
        bests();
        waysByTrying();
        waysByCounting();
        guesses();
        showsWrongly();
        Check.finish("OddsTest");
    }

    /** Tries all f^m ways: answers how many show each (alone, clashing). */
    private static long[][] tried(int f, int m) {
        long[][] found = new long[m + 1][m + 1];
        int[] places = new int[m];
        while (true) {
            int[] inside = new int[f];
            for (int place : places) {
                inside[place]++;
            }
            int alone = 0;
            int clashing = 0;
            for (int many : inside) {
                alone += many == 1 ? 1 : 0;
                clashing += many > 1 ? 1 : 0;
            }
            found[alone][clashing]++;
            int i = 0;
            while (i < m && ++places[i] == f) {
                places[i++] = 0;
            }
            if (i == m) {
                return found;
            }
        }
    }

    private static void fractionIs(String call, long top, long bottom, BigInteger wantTop, BigInteger wantBottom) {
        BigInteger divisor = wantTop.gcd(wantBottom);
        Check.due(call + " numerator", top, wantTop.divide(divisor).longValueExact());
        Check.due(call + " denominator", bottom, wantBottom.divide(divisor).longValueExact());
    }

    private static void aloneIs(int f, int m, int a, BigInteger want) {
        TagReader x = new TagReader();
        String call = "alone(" + f + ", " + m + ", " + a + ")";
        fractionIs(call, x.alone(f, m, a, 0), x.alone(f, m, a, 1), want, BigInteger.valueOf(f).pow(m));
    }

    private static void aloneByTrying() {
        for (int f = 1; f <= 5; f++) {
            for (int m = 1; m <= 6; m++) {
                long[][] found = tried(f, m);
                for (int a = 0; a <= 12; a++) {
                    long ways = 0;
                    for (int c = 0; a <= m && c <= m; c++) {
                        ways += found[a][c];
                    }
                    aloneIs(f, m, a, BigInteger.valueOf(ways));
                }
            }
        }
    }

    private static void aloneByCounting() {
        for (int f = 1; f <= 12; f++) {
            for (int m = 1; m <= 12; m++) {
                for (int a = 0; a <= 12; a++) {
                    aloneIs(f, m, a, PlainOdds.waysWithAlone(f, m, a));
                }
            }
        }
    }

    private static void aloneWrongly() {
        TagReader x = new TagReader();
        for (int v : new int[] {0, 13, -1, MIN, MAX}) {
            Check.due("f " + v, x.alone(v, 2, 1, 0), TagReader.BAD);
            Check.due("m " + v, x.alone(2, v, 1, 0), TagReader.BAD);
            if (v != 0) {
                Check.due("a " + v, x.alone(2, 2, v, 0), TagReader.BAD);
            }
        }
        for (int what : new int[] {-1, 2, MIN, MAX}) {
            Check.due("what " + what, x.alone(2, 2, 1, what), TagReader.BAD);
        }
        Check.due("more than m: 0", x.alone(12, 2, 3, 0), 0);
        Check.due("by 1", x.alone(12, 2, 3, 1), 1);
        Check.due("more than f: 0", x.alone(2, 12, 3, 0), 0);
        Check.due("by 1 too", x.alone(2, 12, 3, 1), 1);
    }

    private static void means() {
        TagReader x = new TagReader();
        for (int f = 1; f <= 12; f++) {
            for (int m = 1; m <= 12; m++) {
                BigInteger sum = PlainOdds.aloneInAllWays(f, m);
                String call = "mean(" + f + ", " + m + ")";
                fractionIs(call, x.mean(f, m, 0), x.mean(f, m, 1), sum, BigInteger.valueOf(f).pow(m));
            }
        }
    }

    private static void meansWrongly() {
        TagReader x = new TagReader();
        for (int v : new int[] {0, 13, -1, MIN, MAX}) {
            Check.due("f " + v, x.mean(v, 2, 0), TagReader.BAD);
            Check.due("m " + v, x.mean(2, v, 0), TagReader.BAD);
        }
        for (int what : new int[] {-1, 2, MIN, MAX}) {
            Check.due("what " + what, x.mean(2, 2, what), TagReader.BAD);
        }
        Check.due("none alone: 0", x.mean(1, 2, 0), 0);
        Check.due("by 1", x.mean(1, 2, 1), 1);
    }

    private static void bests() {
        TagReader x = new TagReader();
        for (int m = 1; m <= 5; m++) {
            int best = 0;
            BigInteger bestTop = BigInteger.valueOf(-1);
            BigInteger bestBottom = BigInteger.ONE;
            for (int f = 1; f <= 64; f++) {
                BigInteger top = BigInteger.valueOf(f - 1).pow(m - 1).multiply(BigInteger.valueOf(m));
                BigInteger bottom = BigInteger.valueOf(f).pow(m);
                if (top.multiply(bestBottom).compareTo(bestTop.multiply(bottom)) > 0) {
                    best = f;
                    bestTop = top;
                    bestBottom = bottom;
                }
            }
            Check.due("best(" + m + ")", x.best(m), best);
        }
        for (int m : new int[] {0, 6, -1, MIN, MAX}) {
            Check.due("best(" + m + ")", x.best(m), TagReader.BAD);
        }
    }

    private static void waysByTrying() {
        TagReader x = new TagReader();
        for (int f = 1; f <= 4; f++) {
            for (int m = 1; m <= 6; m++) {
                long[][] found = tried(f, m);
                for (int a = 0; a <= f; a++) {
                    for (int c = 0; a + c <= f; c++) {
                        long want = a <= m && c <= m ? found[a][c] : 0;
                        Check.due("ways(" + m + ", " + (f - a - c) + ", " + a + ", " + c + ")",
                                x.ways(m, f - a - c, a, c), want);
                    }
                }
            }
        }
    }

    private static void waysByCounting() {
        for (int f = 1; f <= 8; f++) {
            for (int m = 0; m <= 16; m++) {
                TagReader x = new TagReader();
                for (int a = 0; a <= f; a++) {
                    for (int c = 0; a + c <= f; c++) {
                        Check.due("ways(" + m + ", " + (f - a - c) + ", " + a + ", " + c + ")",
                                x.ways(m, f - a - c, a, c), PlainOdds.ways(f, m, a, c).longValueExact());
                    }
                }
            }
        }
    }

    private static void guesses() {
        PlainReader plain = new PlainReader();
        TagReader x = new TagReader();
        for (int f = 1; f <= 8; f++) {
            for (int a = 0; a <= f; a++) {
                for (int c = 0; a + c <= f; c++) {
                    String call = "guess(" + (f - a - c) + ", " + a + ", " + c + ")";
                    Check.due(call, x.guess(f - a - c, a, c), plain.guess(f - a - c, a, c));
                }
            }
        }
        Check.due("of several the least", x.guess(0, 0, 1), 2);
    }

    private static void showsWrongly() {
        TagReader x = new TagReader();
        int[][] shows = {{0, 0, 0}, {-1, 1, 1}, {1, -1, 1}, {1, 1, -1}, {9, 0, 0}, {0, 9, 0}, {0, 0, 9},
            {3, 3, 3}, {MAX, MAX, 3}, {MIN, MIN, 1}, {MAX, 1, MIN}, {9, 0, -1}};
        for (int[] show : shows) {
            String call = show[0] + ", " + show[1] + ", " + show[2] + ")";
            Check.due("guess(" + call, x.guess(show[0], show[1], show[2]), TagReader.BAD);
            Check.due("ways(2, " + call, x.ways(2, show[0], show[1], show[2]), TagReader.BAD);
        }
        for (int m : new int[] {-1, 17, MIN, MAX}) {
            Check.due("ways(" + m + ")", x.ways(m, 1, 1, 1), TagReader.BAD);
        }
        Check.due("a way that is none", x.ways(1, 0, 2, 0), 0);
        Check.due("no tag, yet one alone", x.ways(0, 0, 1, 0), 0);
    }
}
