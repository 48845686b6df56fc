/** Promises 10 to 12: exact, sum, reached. */
public final class ExactTest {
    private static final Due due = new Due("ExactTest");

    public static void main(String[] args) {
        byChoosing();
        byEachRow();
        full();
        reached();
        wrongNumbers();
        due.end();
    }

    private static long choose(int n, int k) {
        long c = 1;
        for (int i = 0; i < k; i++) {
            c = c * (n - i) / (i + 1);
        }
        return c;
    }

    /** a counts the numbers 0 of a row of two: how many rows have three or more, and how many there are in all. */
    private static void byChoosing() {
        ChanceRuns x = Due.with("lots 2;var a 30 0;rule 1:->a+1;goal a>2;goal a=0;goal a=3;");
        for (int n = 0; n <= 30; n++) {
            long few = 0;
            for (int k = 0; k <= Math.min(2, n); k++) {
                few += choose(n, k);
            }
            due.is("exact(0, " + n + ")", x.exact(0, n), (1L << n) - few);
            due.is("exact(2, " + n + ")", x.exact(2, n), (1L << n) - few);
            due.is("exact(1, " + n + ")", x.exact(1, n), 1L << n);
            due.is("sum(0, " + n + ")", x.sum(0, n), n == 0 ? 0 : n * (1L << n - 1));
        }
    }

    private static int a;
    private static int b;

    private static void step(int d) {
        // rule 1:a<3->a+1,b-1; rule 2:b>0->a-2; (W 4)
        int[] weights = {a < 3 ? 1 : 0, b > 0 ? 2 : 0};
        if (d < weights[0]) {
            a = Math.min(3, a + 1);
            b = Math.max(0, b - 1);
        } else if (d < weights[0] + weights[1]) {
            a = Math.max(0, a - 2);
        }
    }

    /** Each row is gone through by itself. */
    private static void byEachRow() {
        ChanceRuns x = Due.with("lots 4;var a 3 1;var b 5 4;rule 1:a<3->a+1,b-1;rule 2:b>0->a-2;goal a=0&b<4;goal a=3;");
        for (int n = 0; n <= 7; n++) {
            long[] found = new long[4];
            for (int row = 0; row < 1 << 2 * n; row++) {
                a = 1;
                b = 4;
                boolean first = false;
                boolean second = false;
                for (int k = 0; k < n; k++) {
                    step(row >> 2 * k & 3);
                    first |= a == 0 && b < 4;
                    second |= a == 3;
                }
                found[0] += first ? 1 : 0;
                found[1] += second ? 1 : 0;
                found[2] += a;
                found[3] += b;
            }
            due.is("exact(0, " + n + ")", x.exact(0, n), found[0]);
            due.is("exact(1, " + n + ")", x.exact(1, n), found[1]);
            due.is("sum(0, " + n + ")", x.sum(0, n), found[2]);
            due.is("sum(1, " + n + ")", x.sum(1, n), found[3]);
        }
    }

    /** The greatest n for each W that is not FULL. */
    private static void full() {
        for (int w = 1; w <= 20; w++) {
            ChanceRuns x = Due.with("lots " + w + ";var a 30 30;goal a=30;goal a=0;");
            java.math.BigInteger rows = java.math.BigInteger.ONE;
            for (int n = 0; n <= 60; n++) {
                boolean fits = rows.compareTo(java.math.BigInteger.TEN.pow(18)) <= 0;
                boolean sums = rows.compareTo(java.math.BigInteger.TEN.pow(17)) <= 0;
                due.is("exact(0, " + n + ") of " + w, x.exact(0, n), fits ? rows.longValueExact() : -4);
                due.is("exact(1, " + n + ") of " + w, x.exact(1, n), fits ? 0 : -4);
                due.is("sum(0, " + n + ") of " + w, x.sum(0, n), sums ? 30 * rows.longValueExact() : -4);
                rows = rows.multiply(java.math.BigInteger.valueOf(w));
            }
        }
        ChanceRuns ten = Due.with("lots 10;var a 30 30;goal a=30;");
        due.is("10^18", ten.exact(0, 18), 1000000000000000000L);
        due.is("10^19", ten.exact(0, 19), -4);
        due.is("30 * 10^17", ten.sum(0, 17), 3000000000000000000L);
        due.is("10^18 summed", ten.sum(0, 18), -4);
        due.is("BAD ahead of FULL", ten.exact(1, 60), -2);
        due.is("BAD ahead of FULL, var", ten.sum(1, 60), -2);
    }

    private static void reached() {
        due.is("none", new ChanceRuns().reached(), -3);
        due.is("no rule", Due.with("lots 9;var a 9 3;goal a=0;").reached(), 1);
        due.is("upward", Due.with("lots 9;var a 9 3;rule 1:->a+1;goal a=0;").reached(), 7);
        due.is("by twos", Due.with("lots 9;var a 9 3;rule 1:->a+2;goal a=0;").reached(), 4);
        due.is("both ways", Due.with("lots 9;var a 9 3;rule 1:->a+1;rule 1:->a-1;goal a=0;").reached(), 10);
        due.is("all of 1000", Due.with("lots 20;var a 9 3;var b 9 0;var c 9 9;rule 1:->a+1;rule 1:->b+1;rule 1:->c-1;"
            + "rule 1:a=9->a=0;rule 1:b=9->b=0;goal a=0;").reached(), 1000);
        // A RULE that has no number below W never goes.
        due.is("without a number", Due.with("lots 2;var a 9 0;var b 9 0;rule 2:->a+1;rule 2:->b+1;goal a=0;").reached(), 10);
        due.is("with one number", Due.with("lots 3;var a 9 0;var b 9 0;rule 2:->a+1;rule 2:->b+1;goal a=0;").reached(), 100);
        due.is("only when it may", Due.with("lots 2;var a 9 0;var b 9 0;rule 2:a<9->a+1;rule 2:->b+1;goal a=0;").reached(), 19);
    }

    private static void wrongNumbers() {
        ChanceRuns none = new ChanceRuns();
        due.is("exact without a model", none.exact(0, 0), -2);
        due.is("sum without a model", none.sum(0, 0), -2);
        ChanceRuns x = Due.with("lots 2;var a 3 0;rule 1:->a+1;goal a=3;goal a=2;");
        for (int bad : new int[] {-1, 2, 32, Integer.MIN_VALUE, Integer.MAX_VALUE}) {
            due.is("exact goal " + bad, x.exact(bad, 3), -2);
            due.is("sum var " + bad, x.sum(bad, 3), -2);
        }
        due.is("sum var 1", x.sum(1, 3), -2);
        for (int bad : new int[] {-1, 61, Integer.MIN_VALUE, Integer.MAX_VALUE}) {
            due.is("exact n " + bad, x.exact(0, bad), -2);
            due.is("sum n " + bad, x.sum(0, bad), -2);
        }
    }
}
