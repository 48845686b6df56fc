import java.math.BigInteger;

/** Each sentence of ENDS and TEST (terms, 3) and of promises 16 to 18 (ends, misses, test) that names an edge. */
public final class SureEdgesTest {
    private static final Due due = new Due("SureEdgesTest");

    public static void main(String[] args) {
        lowOfEqualChances();
        highOfEqualChances();
        lowOfNone();
        highOfAll();
        noChance();
        everyChance();
        oneAndFourteen();
        lowIsSure();
        endsRefused();
        missesByEachCase();
        missesOfFourteen();
        missesOfNoneAndAll();
        missesRefused();
        oddsAreB();
        oddsTheOtherWay();
        sixteenthRun();
        neither();
        runsInTheirOrder();
        testOfNoSteps();
        leastAndGreatest();
        testRefused();
        due.end();
    }

    /** In how many of 10 to the power m cases h of them HOLD, for a share of t by 10. */
    private static BigInteger cases(int h, int m, int t) {
        BigInteger ways = BigInteger.ONE;
        for (int k = 0; k < h; k++) {
            ways = ways.multiply(BigInteger.valueOf(m - k)).divide(BigInteger.valueOf(k + 1));
        }
        return ways.multiply(BigInteger.valueOf(t).pow(h)).multiply(BigInteger.valueOf(10 - t).pow(m - h));
    }

    /** The least a by 1000 that is not below the chance of from to to of m. */
    private static int leastChance(int from, int to, int m, int t) {
        BigInteger sum = BigInteger.ZERO;
        for (int h = from; h <= to; h++) {
            sum = sum.add(cases(h, m, t));
        }
        BigInteger all = BigInteger.TEN.pow(m);
        return sum.multiply(BigInteger.valueOf(1000)).add(all).subtract(BigInteger.ONE).divide(all).intValueExact();
    }

    private static void lowOfEqualChances() {
        due.sentence("LOW .. the greatest t so that h or more of m have chances a by 1000 or less");
        for (int m = 1; m <= 14; m++) {
            for (int h = 1; h <= m; h++) {
                ChanceRuns x = new ChanceRuns();
                for (int t = 1; t <= 10; t++) {
                    int a = leastChance(h, m, m, t);
                    String call = "ends(" + h + ", " + m + ", " + a + ", 0)";
                    due.is(call + " is " + t + " or more", x.ends(h, m, a, 0) >= t ? 1 : 0, 1);
                    if (a > 0) {
                        due.is(call + " by one less is below " + t, x.ends(h, m, a - 1, 0) < t ? 1 : 0, 1);
                    }
                }
            }
        }
        ChanceRuns x = new ChanceRuns();
        due.is("1 of 1 by 300: just 3", x.ends(1, 1, 300, 0), 3);
        due.is("1 of 1 by 299", x.ends(1, 1, 299, 0), 2);
        due.is("2 of 2 by 160: just 4", x.ends(2, 2, 160, 0), 4);
        due.is("2 of 2 by 159", x.ends(2, 2, 159, 0), 3);
        due.is("3 of 3 by 512: just 8", x.ends(3, 3, 512, 0), 8);
        due.is("3 of 3 by 511", x.ends(3, 3, 511, 0), 7);
    }

    private static void highOfEqualChances() {
        due.sentence("HIGH: the least t so that h or fewer have");
        for (int m = 1; m <= 14; m++) {
            for (int h = 0; h < m; h++) {
                ChanceRuns x = new ChanceRuns();
                for (int t = 0; t <= 9; t++) {
                    int a = leastChance(0, h, m, t);
                    String call = "ends(" + h + ", " + m + ", " + a + ", 1)";
                    due.is(call + " is " + t + " or less", x.ends(h, m, a, 1) <= t ? 1 : 0, 1);
                    if (a > 0) {
                        due.is(call + " by one less is above " + t, x.ends(h, m, a - 1, 1) > t ? 1 : 0, 1);
                    }
                }
            }
        }
        ChanceRuns x = new ChanceRuns();
        due.is("0 of 1 by 300: just 7", x.ends(0, 1, 300, 1), 7);
        due.is("0 of 1 by 299", x.ends(0, 1, 299, 1), 8);
        due.is("0 of 2 by 160: just 6", x.ends(0, 2, 160, 1), 6);
        due.is("0 of 2 by 159", x.ends(0, 2, 159, 1), 7);
    }

    private static void lowOfNone() {
        due.sentence("t 0 always may: 0, if h is 0");
        for (int m = 1; m <= 14; m++) {
            ChanceRuns x = new ChanceRuns();
            for (int a : new int[] {0, 1, 500, 999, 1000}) {
                due.is("LOW of 0 of " + m + " by " + a, x.ends(0, m, a, 0), 0);
            }
        }
    }

    private static void highOfAll() {
        due.sentence("(10, if h is m)");
        for (int m = 1; m <= 14; m++) {
            ChanceRuns x = new ChanceRuns();
            for (int a : new int[] {0, 1, 500, 999, 1000}) {
                due.is("HIGH of " + m + " of " + m + " by " + a, x.ends(m, m, a, 1), 10);
            }
        }
    }

    private static void noChance() {
        due.sentence("a (0 to 1000): a 0");
        for (int m = 1; m <= 14; m++) {
            ChanceRuns x = new ChanceRuns();
            for (int h = 0; h <= m; h++) {
                due.is("LOW of " + h + " of " + m, x.ends(h, m, 0, 0), 0);
                due.is("HIGH of " + h + " of " + m, x.ends(h, m, 0, 1), 10);
            }
        }
    }

    private static void everyChance() {
        due.sentence("a (0 to 1000): a 1000");
        for (int m = 1; m <= 14; m++) {
            ChanceRuns x = new ChanceRuns();
            for (int h = 0; h <= m; h++) {
                due.is("LOW of " + h + " of " + m, x.ends(h, m, 1000, 0), h == 0 ? 0 : 10);
                due.is("HIGH of " + h + " of " + m, x.ends(h, m, 1000, 1), h == m ? 10 : 0);
            }
        }
    }

    private static void oneAndFourteen() {
        due.sentence("with h of m (1 to 14)");
        ChanceRuns x = new ChanceRuns();
        due.is("m 0", x.ends(0, 0, 50, 0), -2);
        due.is("m 1", x.ends(1, 1, 100, 0), 1);
        // 0.8 to the power 14 is 0.0439.., 0.9 to the power 14 is 0.2287..
        due.is("m 14, 43", x.ends(14, 14, 43, 0), 7);
        due.is("m 14, 44", x.ends(14, 14, 44, 0), 8);
        due.is("m 14, 228", x.ends(14, 14, 228, 0), 8);
        due.is("m 14, 229", x.ends(14, 14, 229, 0), 9);
        due.is("m 15", x.ends(0, 15, 50, 0), -2);
    }

    private static void lowIsSure() {
        due.sentence("(So if a share t by 10 is true, LOW is above t in a by 1000 of all cases at most.)");
        for (int m = 1; m <= 14; m++) {
            for (int a : new int[] {0, 1, 50, 250, 500, 999, 1000}) {
                ChanceRuns x = new ChanceRuns();
                for (int t = 0; t <= 10; t++) {
                    BigInteger above = BigInteger.ZERO;
                    for (int h = 0; h <= m; h++) {
                        above = x.ends(h, m, a, 0) > t ? above.add(cases(h, m, t)) : above;
                    }
                    int most = above.multiply(BigInteger.valueOf(1000))
                        .compareTo(BigInteger.TEN.pow(m).multiply(BigInteger.valueOf(a)));
                    due.is("m " + m + ", a " + a + ", t " + t, most <= 0 ? 1 : 0, 1);
                }
            }
        }
    }

    private static void endsRefused() {
        due.sentence("ends: LOW (what = 0), HIGH (1), for h (0 to m) of m, a (0 to 1000). BAD.");
        ChanceRuns x = new ChanceRuns();
        for (int m = 1; m <= 14; m++) {
            due.is("h m, m " + m, x.ends(m, m, 50, 1), 10);
            due.is("h above m, m " + m, x.ends(m + 1, m, 50, 1), -2);
        }
        for (int bad : new int[] {-1, Integer.MIN_VALUE, Integer.MAX_VALUE, 1001}) {
            due.is("h " + bad, x.ends(bad, 14, 50, 0), -2);
            due.is("m " + bad, x.ends(0, bad, 50, 0), -2);
            due.is("a " + bad, x.ends(0, 14, bad, 0), -2);
            due.is("what " + bad, x.ends(0, 14, 50, bad), -2);
        }
        due.is("m 0", x.ends(0, 0, 50, 1), -2);
        due.is("m 15", x.ends(0, 15, 50, 1), -2);
        due.is("what 2", x.ends(0, 14, 50, 2), -2);
        due.is("what 1", x.ends(0, 14, 50, 1), 2);
    }

    private static boolean isMissed(ChanceRuns x, int h, int m, int t, int a) {
        return !(x.ends(h, m, a, 0) <= t && t <= x.ends(h, m, a, 1));
    }

    private static void missesByEachCase() {
        due.sentence("in how many of 10 to the power m cases (each of m is one of ten like ways, t of which HOLD)");
        for (int m = 1; m <= 3; m++) {
            for (int a : new int[] {0, 9, 99, 100, 271, 500, 999, 1000}) {
                ChanceRuns x = new ChanceRuns();
                for (int t = 0; t <= 10; t++) {
                    boolean[] missed = new boolean[m + 1];
                    for (int h = 0; h <= m; h++) {
                        missed[h] = isMissed(x, h, m, t, a);
                    }
                    int found = 0;
                    for (int c = 0; c < Math.pow(10, m); c++) {
                        int h = 0;
                        for (int rest = c, k = 0; k < m; k++, rest /= 10) {
                            h += rest % 10 < t ? 1 : 0;
                        }
                        found += missed[h] ? 1 : 0;
                    }
                    due.is("misses(" + m + ", " + t + ", " + a + ")", x.misses(m, t, a), found);
                }
            }
        }
    }

    private static void missesOfFourteen() {
        due.sentence("the ENDS by a are not LOW <= t <= HIGH (m to 14, t 0 to 10)");
        for (int m = 4; m <= 14; m++) {
            for (int a : new int[] {0, 1, 50, 500, 1000}) {
                ChanceRuns x = new ChanceRuns();
                for (int t = 0; t <= 10; t++) {
                    BigInteger found = BigInteger.ZERO;
                    for (int h = 0; h <= m; h++) {
                        found = isMissed(x, h, m, t, a) ? found.add(cases(h, m, t)) : found;
                    }
                    due.is("misses(" + m + ", " + t + ", " + a + ")", x.misses(m, t, a), found.longValueExact());
                }
            }
        }
    }

    private static void missesOfNoneAndAll() {
        due.sentence("For a true share t by 10 (t 0 and 10; none missed, all missed)");
        for (int m = 1; m <= 14; m++) {
            ChanceRuns x = new ChanceRuns();
            for (int a : new int[] {0, 500, 1000}) {
                due.is("t 0, m " + m + ", a " + a, x.misses(m, 0, a), 0);
                due.is("t 10, m " + m + ", a " + a, x.misses(m, 10, a), 0);
            }
            for (int t = 1; t <= 9; t++) {
                due.is("a 0, t " + t + ", m " + m, x.misses(m, t, 0), 0);
                due.is("a 1000, t " + t + ", m " + m, x.misses(m, t, 1000), BigInteger.TEN.pow(m).longValueExact());
            }
        }
    }

    private static void missesRefused() {
        due.sentence("misses: BAD as a long.");
        ChanceRuns x = new ChanceRuns();
        for (int bad : new int[] {-1, Integer.MIN_VALUE, Integer.MAX_VALUE, 1001}) {
            due.is("m " + bad, x.misses(bad, 5, 50), -2L);
            due.is("t " + bad, x.misses(5, bad, 50), -2L);
            due.is("a " + bad, x.misses(5, 5, bad), -2L);
        }
        due.is("m 0", x.misses(0, 5, 50), -2L);
        due.is("m 15", x.misses(15, 5, 50), -2L);
        due.is("t 11", x.misses(5, 11, 50), -2L);
    }

    private static void verdict(ChanceRuns x, int goal, int p, int q, int b, int... want) {
        for (int what = 0; what < 3; what++) {
            due.is("test(" + goal + ", 0, " + p + ", " + q + ", " + b + ", " + what + ")",
                x.test(goal, 0, p, q, b, what), want[what]);
        }
    }

    /** GOAL 0 HOLDS in each RUN, GOAL 1 in none. */
    private static ChanceRuns sure() {
        return Due.with("lots 3;var a 3 2;rule 1:->a=1;goal a=2;goal a=3;");
    }

    private static void oddsAreB() {
        due.sentence("MORE (1), if q to the power h times (10 - q) to the power (m - h) is B times, or more, what that is by p");
        ChanceRuns x = sure();
        verdict(x, 0, 1, 2, 2, 1, 1, 1);
        verdict(x, 0, 1, 2, 3, 1, 2, 2);
        verdict(x, 0, 1, 2, 4, 1, 2, 2);
        verdict(x, 0, 1, 2, 5, 1, 3, 3);
        verdict(x, 0, 1, 2, 8, 1, 3, 3);
        verdict(x, 0, 1, 2, 9, 1, 4, 4);
        verdict(x, 0, 1, 2, 16, 1, 4, 4);
        verdict(x, 0, 1, 2, 17, 1, 5, 5);
        verdict(x, 0, 1, 9, 9, 1, 1, 1);
        verdict(x, 0, 1, 9, 10, 1, 2, 2);
        verdict(x, 0, 3, 6, 2, 1, 1, 1);
        verdict(x, 0, 3, 9, 3, 1, 1, 1);
        verdict(x, 0, 3, 9, 4, 1, 2, 2);
    }

    private static void oddsTheOtherWay() {
        due.sentence("LESS (0) the other way");
        ChanceRuns x = sure();
        verdict(x, 1, 8, 9, 2, 0, 1, 0);
        verdict(x, 1, 8, 9, 3, 0, 2, 0);
        verdict(x, 1, 8, 9, 4, 0, 2, 0);
        verdict(x, 1, 8, 9, 5, 0, 3, 0);
        verdict(x, 1, 8, 9, 8, 0, 3, 0);
        verdict(x, 1, 8, 9, 16, 0, 4, 0);
        verdict(x, 1, 1, 9, 9, 0, 1, 0);
        verdict(x, 1, 1, 9, 10, 0, 2, 0);
        verdict(x, 1, 4, 7, 2, 0, 1, 0);
        verdict(x, 1, 4, 7, 4, 0, 2, 0);
    }

    private static void sixteenthRun() {
        due.sentence("else on; behind 16 .. (the 16th RUN may still make them clear)");
        // (9 / 8) to the power 15 is 5.85.., to the power 16 it is 6.58..
        ChanceRuns x = sure();
        verdict(x, 0, 8, 9, 5, 1, 14, 14);
        verdict(x, 0, 8, 9, 6, 1, 16, 16);
        verdict(x, 1, 1, 2, 5, 0, 14, 0);
        verdict(x, 1, 1, 2, 6, 0, 16, 0);
    }

    private static void neither() {
        due.sentence("behind 16 neither (NONE)");
        ChanceRuns x = sure();
        verdict(x, 0, 8, 9, 7, -1, 16, 16);
        verdict(x, 0, 8, 9, 20, -1, 16, 16);
        verdict(x, 1, 1, 2, 7, -1, 16, 0);
        verdict(x, 1, 1, 2, 20, -1, 16, 0);
    }

    private static void runsInTheirOrder() {
        due.sentence("TEST: RUNS 0, 1, .. of a claim till the odds are clear");
        ChanceRuns x = Due.with("lots 2;var a 1 0;rule 1:->a=1;goal a=1;");
        int[][] shares = {{5, 6, 2}, {4, 6, 2}, {2, 8, 4}, {2, 8, 16}, {3, 7, 20}, {1, 9, 9}};
        for (int seed = 0; seed < 16; seed++) {
            x.seed(seed);
            for (int[] s : shares) {
                int held = 0;
                int runs = 0;
                int verdict = -1;
                while (runs < 16 && verdict < 0) {
                    held += Due.numbers(seed, runs, 2, 1)[1] == 0 ? 1 : 0;
                    runs++;
                    BigInteger byQ = BigInteger.valueOf(s[1]).pow(held).multiply(BigInteger.valueOf(10 - s[1]).pow(runs - held));
                    BigInteger byP = BigInteger.valueOf(s[0]).pow(held).multiply(BigInteger.valueOf(10 - s[0]).pow(runs - held));
                    BigInteger bound = BigInteger.valueOf(s[2]);
                    verdict = byQ.compareTo(byP.multiply(bound)) >= 0 ? 1 : byP.compareTo(byQ.multiply(bound)) >= 0 ? 0 : -1;
                }
                String call = "SEED " + seed + ", " + s[0] + ", " + s[1] + ", " + s[2];
                due.is("verdict of " + call, x.test(0, 1, s[0], s[1], s[2], 0), verdict);
                due.is("RUNS of " + call, x.test(0, 1, s[0], s[1], s[2], 1), runs);
                due.is("held of " + call, x.test(0, 1, s[0], s[1], s[2], 2), held);
            }
        }
    }

    private static void testOfNoSteps() {
        due.sentence("TEST of a claim (n 0 and 60)");
        ChanceRuns x = Due.with("lots 1;var a 30 0;var b 30 0;rule 1:a<30->a+1;rule 1:b<30->b+1;goal a=0;goal b=30;");
        due.is("there at first, n 0", x.test(0, 0, 1, 9, 2, 0), 1);
        due.is("not at first, n 0", x.test(1, 0, 1, 9, 2, 0), 0);
        due.is("not within 59", x.test(1, 59, 1, 9, 2, 0), 0);
        due.is("behind the 60th", x.test(1, 60, 1, 9, 2, 0), 1);
    }

    private static void leastAndGreatest() {
        due.sentence("shares p and q by 10 (1 to 9, p less than q), a bound B (2 to 20)");
        ChanceRuns x = sure();
        for (int p = 0; p <= 10; p++) {
            for (int q = 0; q <= 10; q++) {
                boolean fine = p >= 1 && q <= 9 && p < q;
                due.is("p " + p + ", q " + q, x.test(0, 0, p, q, 2, 0) == -2 ? 1 : 0, fine ? 0 : 1);
            }
        }
        for (int b = 0; b <= 22; b++) {
            due.is("B " + b, x.test(0, 0, 1, 9, b, 0), b >= 2 && b <= 20 ? 1 : -2);
        }
    }

    private static void testRefused() {
        due.sentence("test: BAD: GOAL, n, p, q, B, what; STATE.");
        due.is("without a MODEL", new ChanceRuns().test(0, 0, 1, 2, 2, 0), -2);
        ChanceRuns x = sure();
        for (int bad : new int[] {-1, 61, Integer.MIN_VALUE, Integer.MAX_VALUE}) {
            due.is("GOAL " + bad, x.test(bad, 9, 1, 2, 2, 0), -2);
            due.is("n " + bad, x.test(0, bad, 1, 2, 2, 0), -2);
            due.is("p " + bad, x.test(0, 9, bad, 2, 2, 0), -2);
            due.is("q " + bad, x.test(0, 9, 1, bad, 2, 0), -2);
            due.is("B " + bad, x.test(0, 9, 1, 2, bad, 0), -2);
            due.is("what " + bad, x.test(0, 9, 1, 2, 2, bad), -2);
        }
        due.is("GOAL 2", x.test(2, 9, 1, 2, 2, 0), -2);
        due.is("GOAL 1", x.test(1, 9, 8, 9, 2, 0), 0);
        due.is("what 3", x.test(0, 9, 1, 2, 2, 3), -2);
    }
}
