/** Promises 16 to 20: ends, misses, test, split, moves. */
public final class SureTest {
    private static final Due due = new Due("SureTest");

    public static void main(String[] args) {
        endsByHand();
        endsAreSure();
        missesByEachCase();
        endsRefused();
        test();
        testRefused();
        split();
        splitFull();
        splitRefused();
        moves();
        due.end();
    }

    private static void ends(int h, int m, int a, int low, int high) {
        ChanceRuns x = new ChanceRuns();
        due.is("LOW of " + h + " of " + m + " by " + a, x.ends(h, m, a, 0), low);
        due.is("HIGH of " + h + " of " + m + " by " + a, x.ends(h, m, a, 1), high);
    }

    private static void endsByHand() {
        // One of one: t by 10 is a chance of 100 t by 1000.
        ends(1, 1, 0, 0, 10);
        ends(1, 1, 99, 0, 10);
        ends(1, 1, 100, 1, 10);
        ends(1, 1, 199, 1, 10);
        ends(1, 1, 200, 2, 10);
        ends(1, 1, 999, 9, 10);
        ends(1, 1, 1000, 10, 10);
        ends(0, 1, 0, 0, 10);
        ends(0, 1, 99, 0, 10);
        ends(0, 1, 100, 0, 9);
        ends(0, 1, 999, 0, 1);
        ends(0, 1, 1000, 0, 0);
        // Two of two: t t by 100; one or more of two: 1 less (10 - t)(10 - t) by 100.
        ends(2, 2, 90, 3, 10);
        ends(2, 2, 89, 2, 10);
        ends(1, 2, 190, 1, 9);
        ends(1, 2, 189, 0, 10);
        ends(1, 2, 510, 3, 7);
        ends(1, 2, 1000, 10, 0);
        ends(0, 14, 0, 0, 10);
        ends(14, 14, 0, 0, 10);
        ends(14, 14, 1000, 10, 10);
        ends(0, 14, 1000, 0, 0);
        ends(7, 14, 0, 0, 10);
    }

    /** LOW is above a true share in a by 1000 of all cases at most; and LOW and HIGH are mirrors of one another. */
    private static void endsAreSure() {
        ChanceRuns x = new ChanceRuns();
        for (int m = 1; m <= 14; m++) {
            for (int a = 0; a <= 1000; a += 125) {
                for (int h = 0; h <= m; h++) {
                    due.is("mirror", x.ends(h, m, a, 0), 10 - x.ends(m - h, m, a, 1));
                }
                for (int t = 0; t <= 10; t++) {
                    double above = 0;
                    for (int h = 0; h <= m; h++) {
                        above += x.ends(h, m, a, 0) > t ? chance(h, m, t) : 0;
                    }
                    due.is("LOW above " + t, above <= a / 1000.0 + 1e-9 ? 1 : 0, 1);
                }
            }
        }
    }

    private static double chance(int h, int m, int t) {
        double c = 1;
        for (int k = 0; k < h; k++) {
            c = c * (m - k) / (k + 1);
        }
        return c * Math.pow(t / 10.0, h) * Math.pow(1 - t / 10.0, m - h);
    }

    private static void missesByEachCase() {
        ChanceRuns x = new ChanceRuns();
        int[] chances = {0, 1, 50, 100, 271, 500, 999, 1000};
        for (int m = 1; m <= 4; m++) {
            int cases = (int) Math.round(Math.pow(10, m));
            for (int t = 0; t <= 10; t++) {
                for (int a : chances) {
                    int missed = 0;
                    for (int c = 0; c < cases; c++) {
                        int h = 0;
                        for (int rest = c, k = 0; k < m; k++, rest /= 10) {
                            h += rest % 10 < t ? 1 : 0;
                        }
                        missed += x.ends(h, m, a, 0) > t || x.ends(h, m, a, 1) < t ? 1 : 0;
                    }
                    due.is("misses(" + m + ", " + t + ", " + a + ")", x.misses(m, t, a), missed);
                }
            }
        }
        due.is("misses(14, 5, 500)", x.misses(14, 5, 500), 42395019531250L);
        due.is("misses, LOW is always 10 but for none", x.misses(14, 9, 1000), 100000000000000L);
        due.is("misses(14, 10, 1000)", x.misses(14, 10, 1000), 0);
    }

    private static void endsRefused() {
        ChanceRuns x = new ChanceRuns();
        int[] greatest = {-1, Integer.MIN_VALUE, Integer.MAX_VALUE};
        for (int bad : greatest) {
            due.is("ends h " + bad, x.ends(bad, 5, 50, 0), -2);
            due.is("ends m " + bad, x.ends(0, bad, 50, 0), -2);
            due.is("ends a " + bad, x.ends(0, 5, bad, 0), -2);
            due.is("ends what " + bad, x.ends(0, 5, 50, bad), -2);
            due.is("misses m " + bad, x.misses(bad, 5, 50), -2);
            due.is("misses t " + bad, x.misses(5, bad, 50), -2);
            due.is("misses a " + bad, x.misses(5, 5, bad), -2);
        }
        due.is("ends m 0", x.ends(0, 0, 50, 0), -2);
        due.is("ends m 15", x.ends(0, 15, 50, 0), -2);
        due.is("ends h above m", x.ends(6, 5, 50, 0), -2);
        due.is("ends a 1001", x.ends(0, 5, 1001, 0), -2);
        due.is("ends what 2", x.ends(0, 5, 50, 2), -2);
        due.is("misses m 0", x.misses(0, 5, 50), -2);
        due.is("misses m 15", x.misses(15, 5, 50), -2);
        due.is("misses t 11", x.misses(5, 11, 50), -2);
        due.is("misses a 1001", x.misses(5, 5, 1001), -2);
    }

    private static void verdict(ChanceRuns x, int goal, int p, int q, int b, int want, int runs, int held) {
        String call = "test(" + goal + ", 9, " + p + ", " + q + ", " + b + ")";
        due.is(call + " verdict", x.test(goal, 9, p, q, b, 0), want);
        due.is(call + " runs", x.test(goal, 9, p, q, b, 1), runs);
        due.is(call + " held", x.test(goal, 9, p, q, b, 2), held);
    }

    private static void test() {
        // Goal 0 holds in each RUN: (q / p) to the power m. Goal 1 in none: ((10 - p) / (10 - q)) to the power m.
        ChanceRuns x = Due.with("lots 3;var a 3 2;rule 1:->a=1;goal a=2;goal a=3;");
        verdict(x, 0, 1, 2, 2, 1, 1, 1);
        verdict(x, 0, 1, 2, 3, 1, 2, 2);
        verdict(x, 0, 1, 2, 4, 1, 2, 2);
        verdict(x, 0, 1, 2, 5, 1, 3, 3);
        verdict(x, 0, 1, 2, 16, 1, 4, 4);
        verdict(x, 0, 1, 9, 9, 1, 1, 1);
        verdict(x, 0, 1, 9, 10, 1, 2, 2);
        verdict(x, 0, 8, 9, 6, 1, 16, 16);
        verdict(x, 0, 8, 9, 7, -1, 16, 16);
        verdict(x, 0, 8, 9, 20, -1, 16, 16);
        verdict(x, 1, 8, 9, 2, 0, 1, 0);
        verdict(x, 1, 8, 9, 8, 0, 3, 0);
        verdict(x, 1, 8, 9, 9, 0, 4, 0);
        verdict(x, 1, 1, 2, 6, 0, 16, 0);
        verdict(x, 1, 1, 2, 7, -1, 16, 0);
        verdict(x, 1, 1, 9, 9, 0, 1, 0);
        mixed();
    }

    /** p 5, q 6: a RUN that holds counts for 6 by 5, one that does not for 4 by 5; the RUNS are 0, 1, and on. */
    private static void mixed() {
        ChanceRuns x = Due.with("lots 2;var a 1 0;rule 1:->a=1;goal a=1;");
        for (int seed = 0; seed < 12; seed++) {
            x.seed(seed);
            int held = 0;
            int runs = 0;
            int verdict = -1;
            while (runs < 16 && verdict < 0) {
                held += x.holds(0, 1, runs) >= 0 ? 1 : 0;
                runs++;
                double odds = Math.pow(1.2, held) * Math.pow(0.8, runs - held);
                verdict = odds >= 1.9999999 ? 1 : odds <= 0.5000001 ? 0 : -1;
            }
            due.is("verdict of seed " + seed, x.test(0, 1, 5, 6, 2, 0), verdict);
            due.is("runs of seed " + seed, x.test(0, 1, 5, 6, 2, 1), runs);
            due.is("held of seed " + seed, x.test(0, 1, 5, 6, 2, 2), held);
        }
    }

    private static void testRefused() {
        due.is("test without a model", new ChanceRuns().test(0, 0, 1, 2, 2, 0), -2);
        ChanceRuns x = Due.with("lots 3;var a 3 2;goal a=2;goal a=3;");
        for (int bad : new int[] {-1, 61, Integer.MIN_VALUE, Integer.MAX_VALUE}) {
            due.is("test goal " + bad, x.test(bad, 9, 1, 2, 2, 0), -2);
            due.is("test n " + bad, x.test(0, bad, 1, 2, 2, 0), -2);
            due.is("test p " + bad, x.test(0, 9, bad, 2, 2, 0), -2);
            due.is("test q " + bad, x.test(0, 9, 1, bad, 2, 0), -2);
            due.is("test B " + bad, x.test(0, 9, 1, 2, bad, 0), -2);
            due.is("test what " + bad, x.test(0, 9, 1, 2, 2, bad), -2);
        }
        due.is("test goal 2", x.test(2, 9, 1, 2, 2, 0), -2);
        due.is("test p 0", x.test(0, 9, 0, 2, 2, 0), -2);
        due.is("test q 10", x.test(0, 9, 1, 10, 2, 0), -2);
        due.is("test p q", x.test(0, 9, 2, 2, 2, 0), -2);
        due.is("test p above q", x.test(0, 9, 3, 2, 2, 0), -2);
        due.is("test B 1", x.test(0, 9, 1, 2, 1, 0), -2);
        due.is("test B 21", x.test(0, 9, 1, 2, 21, 0), -2);
        due.is("test what 3", x.test(0, 9, 1, 2, 2, 3), -2);
        due.is("test edges", x.test(0, 60, 8, 9, 20, 1), 16);
    }

    private static void split() {
        // At first three LEVELS are passed, ahead of HOLDING.
        ChanceRuns x = Due.with("lots 1;var l 9 3;goal l>2;goal l>9;");
        due.is("c 5, R 4", x.split(0, 5, 0, 5, 4, 0), 64);
        due.is("c 3, R 4", x.split(0, 0, 0, 3, 4, 999999), 64);
        due.is("c 2, R 3", x.split(0, 5, 0, 2, 3, 9), 9);
        due.is("c 1, R 3", x.split(0, 5, 0, 1, 3, 9), 3);
        due.is("R 1", x.split(0, 5, 0, 5, 1, 9), 1);
        due.is("none holds", x.split(1, 5, 0, 5, 4, 0), 0);
        // The HOLDING STEP is the one that passes the last LEVELS, two at once.
        ChanceRuns y = Due.with("lots 1;var l 9 0;rule 1:->l+2;goal l>3;goal l=2;");
        due.is("up by twos", y.split(0, 2, 0, 5, 3, 0), 81);
        due.is("too few STEPS", y.split(0, 1, 0, 5, 3, 0), 0);
        due.is("LEVELS 1 to 3", y.split(0, 9, 0, 3, 3, 0), 27);
        due.is("held on the way", y.split(1, 9, 0, 5, 3, 0), 9);
        // A LEVEL counts the first time only.
        ChanceRuns z = Due.with("lots 1;var l 9 0;var t 30 0;rule 1:t=0->l=2,t+1;rule 1:t=1->l=0,t+1;rule 1:t=2->l=2,t+1;"
            + "rule 1:t=3->l=3,t+1;goal t=3;goal t=4;");
        due.is("down and up again", z.split(0, 9, 0, 5, 4, 0), 16);
        due.is("and a new one", z.split(1, 9, 0, 5, 4, 0), 64);
        due.is("by another VAR", z.split(1, 9, 1, 2, 4, 0), 16);
        asHolds();
        oneLot();
    }

    private static void asHolds() {
        ChanceRuns x = Due.with("lots 3;var l 5 0;rule 1:l<5->l+1;rule 1:l>0->l-1;goal l=5;goal l=3;");
        for (int i = 0; i < 40; i++) {
            due.is("one copy is a RUN", x.split(0, 40, 0, 5, 1, i), x.holds(0, 40, i) >= 0 ? 1 : 0);
        }
    }

    /** The second copy goes on with the numbers that the first one left: it goes another way. */
    private static void oneLot() {
        ChanceRuns x = Due.with("lots 2;var l 1 1;var d 2 2;rule 1:->d=0;rule 1:->d=1;goal d=0;");
        for (int i = 0; i < 40; i++) {
            int zeros = 0;
            for (int k = 1; k <= 4; k++) {
                zeros += x.goes(i, k) == 0 ? 1 : 0;
            }
            due.is("four copies of one STEP", x.split(0, 1, 0, 1, 4, i), zeros);
        }
        // Copies of two STEPS each: the copies of a copy come ahead of the next copy.
        ChanceRuns y = Due.with("lots 2;var l 2 1;var d 2 2;rule 1:d=2->d=0,l=2;rule 1:d=2->d=1;rule 1:d<2->d=0;goal d=0&l<2;");
        for (int i = 0; i < 40; i++) {
            int at = 1;
            int held = 0;
            for (int copy = 0; copy < 2; copy++) {
                if (x.goes(i, at++) == 0) {
                    at += 2;
                } else {
                    held += x.goes(i, at++) == 0 ? 1 : 0;
                }
            }
            due.is("copies of a copy first", y.split(0, 2, 0, 2, 2, i), held);
        }
    }

    private static void splitFull() {
        // 1024 copies of n STEPS each.
        ChanceRuns x = Due.with("lots 1;var l 30 5;goal l=0;");
        due.is("19456 STEPS", x.split(0, 19, 0, 5, 4, 0), 0);
        due.is("20480 STEPS", x.split(0, 20, 0, 5, 4, 0), -4);
        due.is("all of 60", x.split(0, 60, 0, 5, 4, 0), -4);
        due.is("243 copies of 60", x.split(0, 60, 0, 5, 3, 0), 0);
        // 16 copies of 2 STEPS, 256 of 2, 1024 of 19: 20000 in all.
        ChanceRuns y = Due.with("lots 1;var l 5 2;var t 30 0;rule 1:t=1->l=4,t+1;rule 1:t=3->l=5,t+1;rule 1:->t+1;"
            + "goal t=23;goal l=9;");
        due.is("20000 STEPS, all hold", y.split(0, 23, 0, 5, 4, 0), 1024);
        due.is("20000 STEPS, none holds", y.split(1, 23, 0, 5, 4, 0), 0);
        due.is("more than 20000 STEPS", y.split(1, 24, 0, 5, 4, 0), -4);
        // One STEP more ahead of the first LEVEL.
        ChanceRuns z = Due.with("lots 1;var l 5 0;var t 30 0;rule 1:t=0->l=2,t+1;rule 1:t=2->l=4,t+1;rule 1:t=4->l=5,t+1;"
            + "rule 1:->t+1;goal t=24;");
        due.is("20001 STEPS", z.split(0, 24, 0, 5, 4, 0), -4);
        due.is("18977 STEPS", z.split(0, 23, 0, 5, 4, 0), 0);
        due.is("again", y.split(0, 23, 0, 5, 4, 0), 1024);
    }

    private static void splitRefused() {
        due.is("split without a model", new ChanceRuns().split(0, 0, 0, 1, 1, 0), -2);
        ChanceRuns x = Due.with("lots 1;var l 30 5;goal l=0;");
        for (int bad : new int[] {-1, Integer.MIN_VALUE, Integer.MAX_VALUE}) {
            due.is("split goal " + bad, x.split(bad, 60, 0, 5, 4, 0), -2);
            due.is("split n " + bad, x.split(0, bad, 0, 5, 4, 0), -2);
            due.is("split var " + bad, x.split(0, 60, bad, 5, 4, 0), -2);
            due.is("split c " + bad, x.split(0, 60, 0, bad, 4, 0), -2);
            due.is("split R " + bad, x.split(0, 60, 0, 5, bad, 0), -2);
            due.is("split i " + bad, x.split(0, 60, 0, 5, 4, bad), -2);
        }
        due.is("split goal 1", x.split(1, 60, 0, 5, 4, 0), -2);
        due.is("split n 61", x.split(0, 61, 0, 5, 4, 0), -2);
        due.is("split var 1", x.split(0, 60, 1, 5, 4, 0), -2);
        due.is("split c 0", x.split(0, 60, 0, 0, 4, 0), -2);
        due.is("split c 6", x.split(0, 60, 0, 6, 4, 0), -2);
        due.is("split R 0", x.split(0, 60, 0, 5, 0, 0), -2);
        due.is("split R 5", x.split(0, 60, 0, 5, 5, 0), -2);
        due.is("split i 1000000", x.split(0, 60, 0, 5, 4, 1000000), -2);
    }

    private static void moves() {
        ChanceRuns x = Due.with("lots 9;var a 4 0;var b 4 0;var c 4 0;var d 4 0;"
            + "rule 1:c>0->a+1,a+1,a-1;rule 1:->b=0,a+0;rule 1:c<1->d-1,b=1,a=1;goal c=0;");
        due.is("moves(0)", x.moves(0), 3);
        due.is("moves(1)", x.moves(1), 2);
        due.is("moves(2)", x.moves(2), 0);
        due.is("moves(3)", x.moves(3), 1);
        due.is("moves(4)", x.moves(4), -2);
        due.is("moves(-1)", x.moves(-1), -2);
        due.is("moves least", x.moves(Integer.MIN_VALUE), -2);
        due.is("moves greatest", x.moves(Integer.MAX_VALUE), -2);
        due.is("moves without a model", new ChanceRuns().moves(0), -2);
        due.is("moves of one VAR", Due.with("lots 9;var a 9 0;goal a=0;").moves(1), -2);
    }
}
