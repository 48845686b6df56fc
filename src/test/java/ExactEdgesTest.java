import java.math.BigInteger;

/** Each sentence of EXACT (terms, 2) and of promises 10 to 12 (exact, sum, reached) that names an edge. */
public final class ExactEdgesTest {
    private static final Due due = new Due("ExactEdgesTest");

    public static void main(String[] args) {
        noRowsButOne();
        atFirst();
        everyRow();
        asSoonAsItIs();
        lastNumber();
        aboveTenToThe18();
        exactRefused();
        sumOfNoNumbers();
        sumBehindAll();
        aboveTenToThe17();
        sumRefused();
        reachedWithoutSteps();
        reachedInAnyNumber();
        reachedByNumbersAlone();
        reachedRefused();
        largestModel();
        due.end();
    }

    private static BigInteger power(int w, int n) {
        return BigInteger.valueOf(w).pow(n);
    }

    private static void noRowsButOne() {
        due.sentence("of all rows of n numbers d (W to the power n): n 0");
        for (int w = 1; w <= 20; w++) {
            ChanceRuns x = Due.with("lots " + w + ";var a 9 4;rule 1:->a=5;goal a=4;goal a=5;");
            due.is("there at first, W " + w, x.exact(0, 0), 1);
            due.is("not at first, W " + w, x.exact(1, 0), 0);
            due.is("one STEP, W " + w, x.exact(1, 1), 1);
        }
    }

    private static void atFirst() {
        due.sentence("GOAL g is there at first (all rows do)");
        ChanceRuns x = Due.with("lots 3;var a 9 4;rule 3:->a=5;goal a=4;");
        for (int n = 0; n <= 37; n++) {
            due.is("n " + n, x.exact(0, n), power(3, n).longValueExact());
        }
    }

    private static void everyRow() {
        due.sentence("EXACT: .. in how many the claim HOLDS (in all, in none)");
        ChanceRuns x = Due.with("lots 2;var a 9 0;rule 2:a<9->a+1;goal a=5;goal a>9;");
        for (int n = 0; n <= 59; n++) {
            due.is("all, n " + n, x.exact(0, n), n < 5 ? 0 : 1L << n);
            due.is("none, n " + n, x.exact(1, n), 0);
        }
    }

    private static void asSoonAsItIs() {
        due.sentence("it HOLDS as soon as it is (a row counts once, though the GOAL goes and comes again)");
        ChanceRuns x = Due.with("lots 2;var a 1 0;rule 1:a=0->a=1;rule 1:a=1->a=0;goal a=1;goal a=0;");
        for (int n = 0; n <= 59; n++) {
            due.is("but for the row of 1s, n " + n, x.exact(0, n), (1L << n) - 1);
            due.is("at first, n " + n, x.exact(1, n), 1L << n);
        }
    }

    private static void lastNumber() {
        due.sentence("behind one of n STEPS (the last one too)");
        ChanceRuns x = Due.with("lots 10;var a 30 0;rule 1:->a+1;goal a=18;goal a=17;");
        due.is("one row of 10^18", x.exact(0, 18), 1);
        due.is("none of 10^17", x.exact(0, 17), 0);
        due.is("one row of 10^17", x.exact(1, 17), 1);
        // 17 of 18 numbers are 0: 18 places for the other one, 9 others; and the row of 0s.
        due.is("18 * 9 + 1 rows of 10^18", x.exact(1, 18), 163);
    }

    private static void aboveTenToThe18() {
        due.sentence("FULL, if W to the power n is above 10^18");
        for (int w = 1; w <= 20; w++) {
            ChanceRuns x = Due.with("lots " + w + ";var a 3 3;goal a=3;goal a=0;");
            for (int n = 0; n <= 60; n++) {
                boolean above = power(w, n).compareTo(BigInteger.TEN.pow(18)) > 0;
                due.is("exact(0, " + n + "), W " + w, x.exact(0, n), above ? -4 : power(w, n).longValueExact());
                due.is("exact(1, " + n + "), W " + w, x.exact(1, n), above ? -4 : 0);
            }
        }
        ChanceRuns ten = Due.with("lots 10;var a 3 3;goal a=3;");
        due.is("10^18 is not above", ten.exact(0, 18), 1000000000000000000L);
        due.is("10^19 is", ten.exact(0, 19), -4);
    }

    private static void exactRefused() {
        due.sentence("exact: BAD as a long: GOAL, n; STATE, FULL as longs.");
        due.is("without a MODEL", new ChanceRuns().exact(0, 0), -2L);
        due.is("without a MODEL, n 60", new ChanceRuns().exact(0, 60), -2L);
        ChanceRuns x = Due.with("lots 20;var a 3 3;goal a=3;goal a=0;");
        for (int goal : new int[] {-1, 2, 3, 4, Integer.MIN_VALUE, Integer.MAX_VALUE}) {
            due.is("GOAL " + goal, x.exact(goal, 1), -2L);
            due.is("GOAL " + goal + ", ahead of FULL", x.exact(goal, 60), -2L);
        }
        for (int n : new int[] {-1, 61, Integer.MIN_VALUE, Integer.MAX_VALUE}) {
            due.is("n " + n, x.exact(0, n), -2L);
        }
        due.is("n 60 is FULL", x.exact(0, 60), -4L);
    }

    private static void sumOfNoNumbers() {
        due.sentence("Of all rows of n numbers (n 0 to 60): n 0");
        ChanceRuns x = Due.with("lots 20;var a 30 30;var b 9 0;var c 1 1;rule 20:->a=0,b=9,c=0;goal a=0;");
        due.is("a", x.sum(0, 0), 30);
        due.is("b", x.sum(1, 0), 0);
        due.is("c", x.sum(2, 0), 1);
        due.is("a behind one", x.sum(0, 1), 0);
        due.is("b behind one", x.sum(1, 1), 180);
        due.is("c behind one", x.sum(2, 1), 0);
    }

    private static void sumBehindAll() {
        due.sentence("the sum of a VAR's values behind them (whether a GOAL was there or not)");
        ChanceRuns x = Due.with("lots 2;var a 30 0;var b 30 30;rule 1:->a+1;rule 1:->b-1;goal a=0;goal b=30;");
        for (int n = 0; n <= 30; n++) {
            long half = n == 0 ? 0 : n * (1L << n - 1);
            due.is("a, n " + n, x.sum(0, n), half);
            due.is("b, n " + n, x.sum(1, n), 30 * (1L << n) - half);
        }
        ChanceRuns one = Due.with("lots 1;var a 30 0;rule 1:->a+1;goal a=0;");
        due.is("n 60 of one LOT", one.sum(0, 60), 30);
        due.is("n 29 of one LOT", one.sum(0, 29), 29);
    }

    private static void aboveTenToThe17() {
        due.sentence("sum: FULL as a long: W to the power n is above 10^17.");
        for (int w = 1; w <= 20; w++) {
            ChanceRuns x = Due.with("lots " + w + ";var a 30 30;goal a=3;");
            for (int n = 0; n <= 60; n++) {
                boolean above = power(w, n).compareTo(BigInteger.TEN.pow(17)) > 0;
                due.is("sum(0, " + n + "), W " + w, x.sum(0, n), above ? -4 : 30 * power(w, n).longValueExact());
            }
        }
        ChanceRuns ten = Due.with("lots 10;var a 30 30;goal a=3;");
        due.is("10^17 is not above", ten.sum(0, 17), 3000000000000000000L);
        due.is("10^18 is", ten.sum(0, 18), -4);
    }

    private static void sumRefused() {
        due.sentence("sum: BAD as a long");
        due.is("without a MODEL", new ChanceRuns().sum(0, 0), -2L);
        ChanceRuns x = Due.with("lots 20;var a 3 3;var b 3 3;goal a=3;");
        for (int var : new int[] {-1, 2, 3, 4, Integer.MIN_VALUE, Integer.MAX_VALUE}) {
            due.is("VAR " + var, x.sum(var, 1), -2L);
            due.is("VAR " + var + ", ahead of FULL", x.sum(var, 60), -2L);
        }
        for (int n : new int[] {-1, 61, Integer.MIN_VALUE, Integer.MAX_VALUE}) {
            due.is("n " + n, x.sum(0, n), -2L);
        }
        due.is("n 60 is FULL", x.sum(0, 60), -4L);
        due.is("the last VAR", x.sum(1, 1), 60L);
    }

    private static int reached(String text) {
        return Due.with(text).reached();
    }

    private static void reachedWithoutSteps() {
        due.sentence("How many states can be come to, in any number of STEPS (the first one in none)");
        due.is("no RULE", reached("lots 9;var a 9 3;goal a=0;"), 1);
        due.is("a RULE that may not go", reached("lots 9;var a 9 3;rule 9:a=4->a=5;goal a=0;"), 1);
        due.is("a RULE that changes nothing", reached("lots 9;var a 9 3;rule 9:->a=3;goal a=0;"), 1);
        due.is("one state", reached("lots 9;var a 0 0;rule 9:->a+1;goal a=0;"), 1);
        due.is("left for ever", reached("lots 9;var a 9 3;rule 9:->a=4;goal a=0;"), 2);
    }

    private static void reachedInAnyNumber() {
        due.sentence("reached: in any number of STEPS (more than 60)");
        String ring = "rule 1:a<9->a+1;rule 1:b<9->a=0,b+1;rule 1:c<9->a=0,b=0,c+1;rule 1:->a=0,b=0,c=0;goal a=0;";
        due.is("one behind the other, 1000", reached("lots 1;var a 9 0;var b 9 0;var c 9 0;" + ring), 1000);
        due.is("from the last one on", reached("lots 1;var a 9 9;var b 9 9;var c 9 9;" + ring), 1000);
        due.is("961", reached("lots 2;var a 30 30;var b 30 30;rule 1:->a-1;rule 1:->b-1;goal a=0;"), 961);
        due.is("on behind a GOAL", reached("lots 1;var a 30 0;rule 1:->a+1;goal a=1;goal a=0;"), 31);
    }

    private static void reachedByNumbersAlone() {
        due.sentence("A STEP by a number d, 0 to W - 1 (a RULE beyond these is never gone by)");
        due.is("no number is left", reached("lots 2;var a 9 0;var b 9 0;rule 2:->a+1;rule 2:->b+1;goal a=0;"), 10);
        due.is("one is left", reached("lots 3;var a 9 0;var b 9 0;rule 2:->a+1;rule 2:->b+1;goal a=0;"), 100);
        due.is("one is left at the end", reached("lots 2;var a 9 0;var b 9 0;rule 2:a<9->a+1;rule 2:->b+1;goal a=0;"), 19);
    }

    private static void reachedRefused() {
        due.sentence("reached: STATE.");
        ChanceRuns x = new ChanceRuns();
        due.is("without a MODEL", x.reached(), -3);
        Due.model(x, "lots 9;");
        due.is("behind a FAULT", x.reached(), -3);
        Due.model(x, "lots 9;var a 9 3;goal a=0;");
        due.is("with one", x.reached(), 1);
    }

    private static void largestModel() {
        due.sentence("W, 1 to 20 .. more than 1000 states (1000 states with 20 LOTS: the largest MODEL that is taken)");
        // From the last state 19 numbers take c to 7, and the last one changes nothing; behind c 7 each number takes 1 of a.
        ChanceRuns x = Due.with("lots 20;var a 9 9;var b 9 9;var c 9 9;rule 19:a=9&b=9&c=9->c-2;rule 20:c<9->a-1;"
            + "goal c=7;goal c=9;goal a=0;");
        due.is("states that are come to", x.reached(), 11);
        long rows = 1;
        for (int n = 1; n <= 13; n++) {
            rows *= 20;
            due.is("all rows but one, n " + n, x.exact(0, n), rows - 1);
            due.is("all rows, n " + n, x.exact(1, n), rows);
            due.is("c is 7 in all rows but one, n " + n, x.sum(2, n), 7 * rows + 2);
            due.is("b stays 9, n " + n, x.sum(1, n), 9 * rows);
        }
        due.is("a of one STEP", x.sum(0, 1), 180);
        due.is("a of two STEPS", x.sum(0, 2), 19 * 20 * 8 + 20 * 9);
        due.is("a is 0 behind ten STEPS", x.exact(2, 10), power(20, 9).longValue() * 19);
        due.is("a is not 0 behind nine", x.exact(2, 9), 0);
        due.is("exact of 14", x.exact(0, 14), -4);
        due.is("sum of 14", x.sum(0, 14), -4);
        // The same with a RULE for the last number of the last state, too.
        Due.model(x, "lots 20;var a 9 9;var b 9 9;var c 9 9;rule 19:a=9&b=9&c=9->c-2;rule 1:c=9->b-3;goal b=6;");
        due.is("the last number", x.exact(0, 1), 1);
        due.is("b of one STEP", x.sum(1, 1), 19 * 9 + 6);
        due.is("c of one STEP", x.sum(2, 1), 19 * 7 + 9);
        due.is("each state", reached("lots 20;var a 9 9;var b 9 9;var c 9 9;rule 1:->a-1;rule 1:->b-1;rule 18:->c-1;goal a=0;"), 1000);
    }
}
