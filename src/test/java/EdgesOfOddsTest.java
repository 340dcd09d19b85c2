import java.math.BigInteger;

/** Promises 25 to 29, sentence by sentence: the bounds, the least and the greatest, what is refused. */
public final class EdgesOfOddsTest {
    private static final int MIN = Integer.MIN_VALUE;
    private static final int MAX = Integer.MAX_VALUE;

    public static void main(String[] args) {
        fractionsAreInLowestTerms();
        oneSlot();
        oneTag();
        allAlone();
        noneIsZeroByOne();
        theGreatestFractions();
        aloneRefused();
        meansAtTheirEnds();
        meanRefused();
        bestOfOneToFive();
        bestRefused();
        guessesAtTheirEnds();
        ofSeveralTheLeast();
        guessesByAllWays();
        someMShowsEverything();
        showsAreOneToEightSlots();
        guessRefused();
        waysOfNone();
        waysOfSixteen();
        waysThatAreNone();
        waysAddUp();
        waysRefused();
        Check.finish("EdgesOfOddsTest");
    }

    /** "Fractions are in lowest terms, the denominator above 0." */
    private static void fractionsAreInLowestTerms() {
        for (int f = 1; f <= 12; f++) {
            for (int m = 1; m <= 12; m++) {
                TagReader x = new TagReader();
                for (int a = 0; a <= 12; a++) {
                    isInLowestTerms("alone", x.alone(f, m, a, 0), x.alone(f, m, a, 1));
                }
                isInLowestTerms("mean", x.mean(f, m, 0), x.mean(f, m, 1));
            }
        }
    }

    private static void isInLowestTerms(String name, long top, long bottom) {
        Check.holds(name + ": the denominator is above 0", bottom > 0);
        Check.holds(name + ": the numerator is not below 0", top >= 0);
        BigInteger divisor = BigInteger.valueOf(top).gcd(BigInteger.valueOf(bottom));
        Check.due(name + ": lowest terms", divisor.longValueExact(), 1);
    }

    private static void aloneIs(int f, int m, int a, long top, long bottom) {
        TagReader x = new TagReader();
        String call = "alone(" + f + ", " + m + ", " + a + ")";
        Check.due(call, x.alone(f, m, a, 0), top);
        Check.due(call + " by", x.alone(f, m, a, 1), bottom);
    }

    private static void oneSlot() {
        aloneIs(1, 1, 1, 1, 1);
        aloneIs(1, 1, 0, 0, 1);
        for (int m = 2; m <= 12; m++) {
            aloneIs(1, m, 0, 1, 1);
            aloneIs(1, m, 1, 0, 1);
        }
    }

    private static void oneTag() {
        for (int f = 1; f <= 12; f++) {
            aloneIs(f, 1, 1, 1, 1);
            aloneIs(f, 1, 0, 0, 1);
            aloneIs(f, 1, 2, 0, 1);
        }
    }

    private static void allAlone() {
        aloneIs(12, 12, 12, 1925, 35831808);
        aloneIs(12, 2, 2, 11, 12);
        aloneIs(2, 2, 2, 1, 2);
        aloneIs(12, 11, 11, 1925, 35831808 / 12);
    }

    /** "(none: 0 by 1)". */
    private static void noneIsZeroByOne() {
        aloneIs(12, 11, 12, 0, 1);
        aloneIs(11, 12, 12, 0, 1);
        aloneIs(12, 12, 11, 0, 1);
        aloneIs(2, 2, 1, 0, 1);
        aloneIs(1, 12, 12, 0, 1);
        aloneIs(12, 1, 12, 0, 1);
    }

    private static void theGreatestFractions() {
        for (int a = 0; a <= 12; a++) {
            BigInteger top = PlainOdds.waysWithAlone(12, 12, a);
            BigInteger bottom = BigInteger.valueOf(12).pow(12);
            BigInteger divisor = top.gcd(bottom);
            aloneIs(12, 12, a, top.divide(divisor).longValueExact(), bottom.divide(divisor).longValueExact());
        }
        long eleventh = PlainOdds.waysWithAlone(11, 12, 0).longValueExact() / 11;
        aloneIs(11, 12, 0, eleventh, 285311670611L);
    }

    private static void aloneRefused() {
        for (int what = 0; what < 2; what++) {
            int part = what;
            for (int v : new int[] {0, 13, -1, MIN, MAX}) {
                Twins.refused("f " + v, x -> x.alone(v, 1, 1, part), TagReader.BAD);
                Twins.refused("m " + v, x -> x.alone(1, v, 1, part), TagReader.BAD);
            }
            for (int v : new int[] {-1, 13, MIN, MAX}) {
                Twins.refused("a " + v, x -> x.alone(12, 12, v, part), TagReader.BAD);
            }
        }
        for (int what : new int[] {-1, 2, MIN, MAX}) {
            Twins.refused("what " + what, x -> x.alone(1, 1, 1, what), TagReader.BAD);
        }
        Twins.onlyAsks("alone(12, 12, 12, 0)", x -> x.alone(12, 12, 12, 0));
    }

    private static void meanIs(int f, int m, long top, long bottom) {
        TagReader x = new TagReader();
        Check.due("mean(" + f + ", " + m + ")", x.mean(f, m, 0), top);
        Check.due("mean(" + f + ", " + m + ") by", x.mean(f, m, 1), bottom);
    }

    private static void meansAtTheirEnds() {
        meanIs(1, 1, 1, 1);
        meanIs(12, 1, 1, 1);
        meanIs(1, 2, 0, 1);
        meanIs(1, 12, 0, 1);
        meanIs(2, 12, 3, 512);
        meanIs(12, 2, 11, 6);
        meanIs(12, 12, 285311670611L, 61917364224L);
        meanIs(11, 12, 12 * 100000000000L, 285311670611L);
    }

    private static void meanRefused() {
        for (int what = 0; what < 2; what++) {
            int part = what;
            for (int v : new int[] {0, 13, -1, MIN, MAX}) {
                Twins.refused("f " + v, x -> x.mean(v, 1, part), TagReader.BAD);
                Twins.refused("m " + v, x -> x.mean(1, v, part), TagReader.BAD);
            }
        }
        for (int what : new int[] {-1, 2, MIN, MAX}) {
            Twins.refused("what " + what, x -> x.mean(1, 1, what), TagReader.BAD);
        }
        Twins.onlyAsks("mean(12, 12, 1)", x -> x.mean(12, 12, 1));
    }

    /** "the f (1 to 64) with the greatest MEAN by f; of several the least". */
    private static void bestOfOneToFive() {
        PlainReader plain = new PlainReader();
        TagReader x = new TagReader();
        for (int m = 1; m <= 5; m++) {
            Check.due("best(" + m + ")", x.best(m), plain.best(m));
            Check.due("as many as there are", x.best(m), m);
        }
    }

    private static void bestRefused() {
        for (int m : new int[] {0, 6, -1, MIN, MAX}) {
            Twins.refused("best(" + m + ")", x -> x.best(m), TagReader.BAD);
        }
        Twins.onlyAsks("best(5)", x -> x.best(5));
    }

    /** "of m (0 to 16) that by which this is likeliest". */
    private static void guessesAtTheirEnds() {
        TagReader x = new TagReader();
        for (int f = 1; f <= 8; f++) {
            Check.due("all EMPTY", x.guess(f, 0, 0), 0);
            Check.due("all alone", x.guess(0, f, 0), f);
            Check.due("one alone", x.guess(f - 1, 1, 0), 1);
        }
        Check.due("all 8 clash: 16 are the most", x.guess(0, 0, 8), 16);
        Check.due("7 clash, one alone", x.guess(0, 1, 7), 16);
        Check.due("7 clash, one EMPTY", x.guess(1, 0, 7), new PlainReader().guess(1, 0, 7));
    }

    /** "of several the least": in one SLOT any two or more show the same. */
    private static void ofSeveralTheLeast() {
        TagReader x = new TagReader();
        Check.due("one SLOT that clashes", x.guess(0, 0, 1), 2);
        Check.due("with two SLOTS fewer are likelier", x.guess(1, 0, 1), 2);
    }

    /** "likeliest (by all ways in which m TAGS can lie)": by the odds out of f^m, not by the ways alone. */
    private static void guessesByAllWays() {
        PlainReader plain = new PlainReader();
        TagReader x = new TagReader();
        for (int e = 0; e <= 8; e++) {
            for (int a = 0; a + e <= 8; a++) {
                for (int c = 0; c + a + e <= 8; c++) {
                    Check.due("guess(" + e + ", " + a + ", " + c + ")", x.guess(e, a, c), plain.guess(e, a, c));
                }
            }
        }
    }

    /** "NONE: no m can show this": one alone and two in each SLOT that clashes are 16 at most, so it can't be. */
    private static void someMShowsEverything() {
        for (int e = 0; e <= 8; e++) {
            TagReader x = new TagReader();
            for (int a = 0; a + e <= 8; a++) {
                for (int c = e + a == 0 ? 1 : 0; c + a + e <= 8; c++) {
                    int m = x.guess(e, a, c);
                    Check.holds("an m", m >= a + 2 * c && m <= 16);
                    Check.holds("that can show it", x.ways(m, e, a, c) > 0);
                }
            }
        }
    }

    /** "(summed f)", "f not 1 to 8". */
    private static void showsAreOneToEightSlots() {
        TagReader x = new TagReader();
        int[][] eights = {{8, 0, 0}, {0, 8, 0}, {0, 0, 8}, {3, 3, 2}, {1, 1, 6}};
        for (int[] show : eights) {
            Check.holds("8 SLOTS", x.guess(show[0], show[1], show[2]) >= 0);
            Check.holds("8 SLOTS", x.ways(16, show[0], show[1], show[2]) >= 0);
            for (int i = 0; i < 3; i++) {
                int[] more = show.clone();
                more[i]++;
                Check.due("9 SLOTS", x.guess(more[0], more[1], more[2]), TagReader.BAD);
                Check.due("9 SLOTS", x.ways(16, more[0], more[1], more[2]), TagReader.BAD);
            }
        }
        Check.due("no SLOT", x.guess(0, 0, 0), TagReader.BAD);
        Check.due("no SLOT", x.ways(0, 0, 0, 0), TagReader.BAD);
    }

    private static final int[][] NO_SHOWS = {{-1, 1, 1}, {1, -1, 1}, {1, 1, -1}, {MIN, 1, 1}, {1, MIN, 1}, {1, 1, MIN},
        {MAX, 1, 1}, {1, MAX, 1}, {1, 1, MAX}, {MAX, MAX, 3}, {MAX, 3, MAX}, {3, MAX, MAX}, {MIN, MIN, 1},
        {MIN, 1, MIN}, {1, MIN, MIN}, {MAX, MIN, 2}, {9, -1, 0}, {0, 9, -1}, {-1, 0, 9}, {1 << 31, 1 << 31, 8}};

    /** "BAD: also e, a, c below 0": sums that wrap around into 1 to 8 are no SLOTS. */
    private static void guessRefused() {
        for (int[] show : NO_SHOWS) {
            String call = show[0] + ", " + show[1] + ", " + show[2] + ")";
            Twins.refused("guess(" + call, x -> x.guess(show[0], show[1], show[2]), TagReader.BAD);
            Twins.refused("ways(2, " + call, x -> x.ways(2, show[0], show[1], show[2]), TagReader.BAD);
        }
        Twins.onlyAsks("guess(1, 1, 6)", x -> x.guess(1, 1, 6));
    }

    private static void waysOfNone() {
        TagReader x = new TagReader();
        for (int f = 1; f <= 8; f++) {
            Check.due("no TAG, all EMPTY", x.ways(0, f, 0, 0), 1);
            Check.due("no TAG, one alone", x.ways(0, f - 1, 1, 0), 0);
            Check.due("no TAG, one clashes", x.ways(0, f - 1, 0, 1), 0);
            Check.due("one TAG, all EMPTY", x.ways(1, f, 0, 0), 0);
            Check.due("one TAG, one alone", x.ways(1, f - 1, 1, 0), f);
        }
    }

    private static void waysOfSixteen() {
        TagReader x = new TagReader();
        Check.due("two in each of 8", x.ways(16, 0, 0, 8), 81729648000L);
        Check.due("all in one", x.ways(16, 0, 0, 1), 1);
        Check.due("all in one of 8", x.ways(16, 7, 0, 1), 8);
        Check.due("one alone, 15 in one", x.ways(16, 0, 1, 1), 32);
        Check.due("17", x.ways(17, 7, 0, 1), TagReader.BAD);
    }

    private static void waysThatAreNone() {
        TagReader x = new TagReader();
        Check.due("fewer than are alone", x.ways(7, 0, 8, 0), 0);
        Check.due("more than are alone", x.ways(9, 0, 8, 0), 0);
        Check.due("fewer than two each", x.ways(15, 0, 0, 8), 0);
        Check.due("one less than can be", x.ways(4, 0, 1, 2), 0);
        Check.due("just so many", x.ways(5, 0, 1, 2), 90);
        Check.due("16 and none that clashes", x.ways(16, 1, 7, 0), 0);
        Check.due("16 and all EMPTY", x.ways(16, 8, 0, 0), 0);
    }

    /** Each way shows something: over all e, a, c they are f^m. */
    private static void waysAddUp() {
        for (int f = 1; f <= 8; f++) {
            for (int m = 0; m <= 16; m++) {
                TagReader x = new TagReader();
                long sum = 0;
                for (int a = 0; a <= f; a++) {
                    for (int c = 0; a + c <= f; c++) {
                        sum += x.ways(m, f - a - c, a, c);
                    }
                }
                Check.due(m + " in " + f, sum, BigInteger.valueOf(f).pow(m).longValueExact());
            }
        }
    }

    private static void waysRefused() {
        for (int m : new int[] {-1, 17, MIN, MAX}) {
            Twins.refused("ways(" + m + ")", x -> x.ways(m, 1, 1, 1), TagReader.BAD);
        }
        Twins.onlyAsks("ways(16, 1, 1, 6)", x -> x.ways(16, 1, 1, 6));
    }
}
