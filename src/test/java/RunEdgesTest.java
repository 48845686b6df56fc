/** Each sentence of A STEP (terms, 2) and of promises 7 to 9 and 20 (holds, value, goes, moves) that names an edge. */
public final class RunEdgesTest {
    private static final int[] NO_RUNS = {-1, 1000000, 1000001, Integer.MIN_VALUE, Integer.MAX_VALUE};
    private static final int[] NO_LENGTHS = {-1, 61, 62, Integer.MIN_VALUE, Integer.MAX_VALUE};
    private static final Due due = new Due("RunEdgesTest");

    public static void main(String[] args) {
        numbersOfRules();
        rulesThatMayNotGo();
        beyond();
        moreThanThereAre();
        oneLot();
        allCondsHold();
        condSigns();
        cut();
        oneBehindTheOther();
        noSteps();
        lastStep();
        asSoonAsItIs();
        firstAndLastRun();
        lotOf64Bits();
        moduloW();
        holdsRefused();
        valueBehindSteps();
        valueRefused();
        goesAtSteps();
        goesNone();
        goesRefused();
        movesOnce();
        movesRefused();
        largestModel();
        due.end();
    }

    /** The RULE that is due for each d, at STEP 1 of as many RUNS as it takes to see each d. */
    private static void byNumber(String text, int w, int... rules) {
        boolean[] seen = new boolean[w];
        int missing = w;
        ChanceRuns x = Due.with(text);
        for (int i = 0; i < 400 && missing > 0; i++) {
            int d = Due.numbers(0, i, w, 1)[1];
            missing -= seen[d] ? 0 : 1;
            seen[d] = true;
            due.is("goes by d " + d + " of '" + text + "'", x.goes(i, 1), rules[d]);
        }
        due.is("numbers that did not come", missing, 0);
    }

    private static void numbersOfRules() {
        due.sentence("the RULES that may go, in order, have as many numbers each as their weight, 0 and on");
        byNumber("lots 4;var a 9 0;rule 1:->a+1;rule 1:->a+2;rule 1:->a+3;rule 1:->a+4;goal a=9;", 4, 0, 1, 2, 3);
        byNumber("lots 7;var a 9 0;rule 1:->a+1;rule 2:->a+1;rule 4:->a+1;goal a=9;", 7, 0, 1, 1, 2, 2, 2, 2);
        byNumber("lots 7;var a 9 0;rule 4:->a+1;rule 2:->a+1;rule 1:->a+1;goal a=9;", 7, 0, 0, 0, 0, 1, 1, 2);
    }

    private static void rulesThatMayNotGo() {
        due.sentence("it may go, if all its CONDS hold (else it has no numbers)");
        byNumber("lots 5;var a 9 0;rule 3:a>0->a+1;rule 2:->a+1;rule 5:a=1->a+1;rule 2:a<1->a+1;goal a=9;", 5, 1, 1, 3, 3, -1);
        byNumber("lots 3;var a 9 0;rule 3:a>0->a+1;goal a=9;", 3, -1, -1, -1);
        byNumber("lots 3;var a 9 0;rule 1:a=0->a+1;goal a=9;", 3, 0, -1, -1);
    }

    private static void beyond() {
        due.sentence("none (d is beyond): nothing changes");
        byNumber("lots 6;var a 9 0;rule 2:->a+1;rule 3:->a+1;goal a=9;", 6, 0, 0, 1, 1, 1, -1);
        ChanceRuns x = Due.with("lots 6;var a 9 4;var b 9 5;rule 5:->a=0,b=0;goal a=9;");
        for (int i = 0; i < 60; i++) {
            boolean goes = Due.numbers(0, i, 6, 1)[1] < 5;
            due.is("a of RUN " + i, x.value(i, 1, 0), goes ? 0 : 4);
            due.is("b of RUN " + i, x.value(i, 1, 1), goes ? 0 : 5);
        }
        ChanceRuns none = Due.with("lots 20;var a 9 4;goal a=9;");
        due.is("no RULE at all", none.value(5, 60, 0), 4);
    }

    private static void moreThanThereAre() {
        due.sentence("A STEP by a number d, 0 to W - 1 (weights may come to more)");
        byNumber("lots 3;var a 9 0;rule 2:->a+1;rule 3:->a+1;rule 3:->a+1;goal a=9;", 3, 0, 0, 1);
        byNumber("lots 3;var a 9 0;rule 3:->a+1;rule 1:->a+1;goal a=9;", 3, 0, 0, 0);
        byNumber("lots 20;var a 9 0;" + "rule 20:->a+1;".repeat(12) + "goal a=9;", 20, new int[20]);
    }

    private static void oneLot() {
        due.sentence("LOTS: W, 1 (d is 0)");
        ChanceRuns x = Due.with("lots 1;var a 30 0;rule 1:a<5->a+1;rule 1:->a=30;goal a=30;");
        for (int k = 1; k <= 7; k++) {
            due.is("goes at " + k, x.goes(12345, k), k <= 5 ? 0 : 1);
            due.is("value behind " + k, x.value(12345, k, 0), k <= 5 ? k : 30);
        }
    }

    private static int atFirst(String conds) {
        return Due.with("lots 1;var a 9 4;var b 7 5;goal " + conds + ";").holds(0, 0, 0);
    }

    private static void allCondsHold() {
        due.sentence("A GOAL is there, if all its CONDS hold.");
        due.is("three that hold", atFirst("a=4&b=5&a<5"), 0);
        due.is("not the first", atFirst("a=3&b=5&a<5"), -1);
        due.is("not the second", atFirst("a=4&b=4&a<5"), -1);
        due.is("not the third", atFirst("a=4&b=5&a<4"), -1);
        due.is("two that rule one another out", atFirst("a=4&a=5"), -1);
        due.is("one", atFirst("b=5"), 0);
        ChanceRuns x = Due.with("lots 1;var a 9 4;var b 7 5;rule 1:a=4&b=5&b>5->a=0;rule 1:a=4&b=5&b>4->a=1;goal a=0;");
        due.is("of a RULE too", x.goes(0, 1), 1);
    }

    private static void condSigns() {
        due.sentence("COND: NAME ( '<' | '=' | '>' ) NUMBER");
        for (int n = 0; n <= 99; n++) {
            due.is("4<" + n, atFirst("a<" + n), 4 < n ? 0 : -1);
            due.is("4=" + n, atFirst("a=" + n), 4 == n ? 0 : -1);
            due.is("4>" + n, atFirst("a>" + n), 4 > n ? 0 : -1);
        }
        ChanceRuns zero = Due.with("lots 1;var a 9 0;goal a<0;goal a=0;goal a>0;");
        due.is("0<0", zero.holds(0, 0, 0), -1);
        due.is("0=0", zero.holds(1, 0, 0), 0);
        due.is("0>0", zero.holds(2, 0, 0), -1);
    }

    private static int behindOne(int most, int first, String effects) {
        return Due.with("lots 1;var o 2 1;var a " + most + " " + first + ";rule 1:->" + effects + ";goal o=0;").value(0, 1, 1);
    }

    private static void cut() {
        due.sentence("the VAR becomes the NUMBER, more, or less by it, then cut to 0 and its greatest value");
        for (int most : new int[] {0, 1, 9, 30}) {
            for (int first : new int[] {0, most / 2, most}) {
                for (int n = 0; n <= 99; n++) {
                    due.is(first + " of " + most + " =" + n, behindOne(most, first, "a=" + n), Math.min(most, n));
                    due.is(first + " of " + most + " +" + n, behindOne(most, first, "a+" + n), Math.min(most, first + n));
                    due.is(first + " of " + most + " -" + n, behindOne(most, first, "a-" + n), Math.max(0, first - n));
                }
            }
        }
    }

    private static void oneBehindTheOther() {
        due.sentence("its EFFECTS, one behind the other (each cut)");
        due.is("up, cut, down", behindOne(9, 4, "a+99,a-2"), 7);
        due.is("down, cut, up", behindOne(9, 4, "a-99,a+2"), 2);
        due.is("becomes, cut, down", behindOne(9, 4, "a=99,a-9"), 0);
        due.is("more, becomes", behindOne(9, 4, "a+1,a=2"), 2);
        due.is("becomes, more", behindOne(9, 4, "a=2,a+1"), 3);
        due.is("three times up", behindOne(9, 4, "a+1,a+1,a+1"), 7);
        due.is("up, cut, down, up", behindOne(9, 9, "a+1,a-1,a+1"), 9);
        due.is("another VAR between", behindOne(9, 4, "a+1,o=0,a+1"), 6);
        due.is("another VAR alone", behindOne(9, 4, "o+1,o+1,o-1"), 4);
        // CONDS are asked ahead of all EFFECTS.
        ChanceRuns x = Due.with("lots 2;var a 9 0;rule 1:a=0->a=1;rule 1:a=1->a=2;goal a=2;");
        due.is("one RULE a STEP", x.holds(0, 1, 0), -1);
    }

    private static ChanceRuns counter() {
        return Due.with("lots 1;var a 30 0;var b 30 0;rule 1:a<30->a+1;rule 1:b<30->b+1;"
            + "goal a=0;goal b=30;goal b=29;goal a>4&a<6;");
    }

    private static void noSteps() {
        due.sentence("A claim: GOAL g is there at first or behind one of n STEPS (n 0)");
        ChanceRuns x = counter();
        due.is("there at first", x.holds(0, 0, 0), 0);
        due.is("there at first, n 60", x.holds(0, 60, 0), 0);
        due.is("not at first", x.holds(3, 0, 0), -1);
        due.is("value behind 0 STEPS", x.value(0, 0, 0), 0);
    }

    private static void lastStep() {
        due.sentence("behind one of n STEPS (n 0 to 60)");
        ChanceRuns x = counter();
        due.is("behind the 60th", x.holds(1, 60, 0), 60);
        due.is("of 59", x.holds(1, 59, 0), -1);
        due.is("behind the 59th", x.holds(2, 60, 0), 59);
        due.is("the 59th of 59", x.holds(2, 59, 0), 59);
        due.is("of 58", x.holds(2, 58, 0), -1);
        due.is("the 5th of 5", x.holds(3, 5, 0), 5);
        due.is("of 4", x.holds(3, 4, 0), -1);
    }

    private static void asSoonAsItIs() {
        due.sentence("it HOLDS as soon as it is");
        ChanceRuns x = counter();
        due.is("there once, and gone", x.holds(3, 60, 0), 5);
        due.is("there at first, and gone", x.holds(0, 60, 0), 0);
        ChanceRuns y = Due.with("lots 1;var a 1 0;rule 1:a=0->a=1;rule 1:a=1->a=0;goal a=1;goal a=0;");
        due.is("every other STEP", y.holds(0, 60, 0), 1);
        due.is("every other STEP, and at first", y.holds(1, 60, 0), 0);
    }

    private static ChanceRuns writer(int w) {
        StringBuilder text = new StringBuilder("lots " + w + ";var d 12 12;");
        for (int r = 0; r < Math.min(12, w); r++) {
            text.append("rule 1:->d=").append(r).append(';');
        }
        return Due.with(text + "goal d=0;");
    }

    private static void firstAndLastRun() {
        due.sentence("RUN i (0 to 999999)");
        ChanceRuns x = writer(12);
        for (int run : new int[] {0, 1, 99999, 999998, 999999}) {
            int[] d = Due.numbers(0, run, 12, 60);
            for (int k = 1; k <= 60; k += 7) {
                due.is("RUN " + run + ", STEP " + k, x.value(run, k, 0), d[k]);
            }
        }
    }

    private static void lotOf64Bits() {
        due.sentence("LOT (64 bits) is SEED, and i times -7046029254386353131, added .. LOT without sign");
        long[] seeds = {0, 1, -1, Long.MAX_VALUE, Long.MIN_VALUE, Long.MAX_VALUE - 1, 1L << 33, -(1L << 33)};
        for (long seed : seeds) {
            ChanceRuns x = writer(11);
            x.seed(seed);
            for (int run : new int[] {0, 1, 2, 3, 999999}) {
                int[] d = Due.numbers(seed, run, 11, 60);
                for (int k = 1; k <= 60; k++) {
                    due.is("SEED " + seed + ", RUN " + run + ", STEP " + k, x.goes(run, k), d[k]);
                }
            }
        }
    }

    private static void moduloW() {
        due.sentence("d is .. shifted right by 33, modulo W");
        for (int w = 1; w <= 20; w++) {
            ChanceRuns x = writer(w);
            for (int run = 0; run < 40; run++) {
                int d = Due.numbers(0, run, w, 3)[3];
                due.is("W " + w + ", RUN " + run, x.goes(run, 3), d < 12 ? d : -1);
            }
        }
    }

    private static void holdsRefused() {
        due.sentence("holds: BAD: GOAL, n, i; STATE.");
        ChanceRuns none = new ChanceRuns();
        due.is("without a MODEL", none.holds(0, 0, 0), -2);
        ChanceRuns x = counter();
        for (int goal : new int[] {-1, 4, 5, 32, Integer.MIN_VALUE, Integer.MAX_VALUE}) {
            due.is("GOAL " + goal, x.holds(goal, 1, 0), -2);
        }
        for (int n : NO_LENGTHS) {
            due.is("n " + n, x.holds(0, n, 0), -2);
        }
        for (int i : NO_RUNS) {
            due.is("i " + i, x.holds(0, 1, i), -2);
        }
        due.is("the last GOAL", x.holds(3, 60, 999999), 5);
        ChanceRuns one = Due.with("lots 1;var a 1 0;var b 1 0;goal a=0;");
        due.is("GOAL 1 of one", one.holds(1, 1, 0), -2);
        due.is("GOAL 0 of one", one.holds(0, 1, 0), 0);
    }

    private static void valueBehindSteps() {
        due.sentence("The value of a VAR behind n STEPS (0 to 60) of RUN i.");
        ChanceRuns x = counter();
        for (int n = 0; n <= 60; n++) {
            due.is("a behind " + n, x.value(999999, n, 0), Math.min(30, n));
            due.is("b behind " + n, x.value(999999, n, 1), Math.max(0, n - 30));
        }
        ChanceRuns four = Due.with("lots 1;var a 1 1;var b 5 2;var c 6 3;var d 10 4;rule 1:->c+1,d+2;goal a=0;");
        due.is("a of four", four.value(0, 2, 0), 1);
        due.is("b of four", four.value(0, 2, 1), 2);
        due.is("c of four", four.value(0, 2, 2), 5);
        due.is("d of four", four.value(0, 2, 3), 8);
    }

    private static void valueRefused() {
        due.sentence("value: BAD; STATE.");
        due.is("without a MODEL", new ChanceRuns().value(0, 0, 0), -2);
        ChanceRuns x = counter();
        for (int var : new int[] {-1, 2, 3, 4, Integer.MIN_VALUE, Integer.MAX_VALUE}) {
            due.is("VAR " + var, x.value(0, 1, var), -2);
        }
        for (int n : NO_LENGTHS) {
            due.is("n " + n, x.value(0, n, 0), -2);
        }
        for (int i : NO_RUNS) {
            due.is("i " + i, x.value(i, 1, 0), -2);
        }
    }

    private static void goesAtSteps() {
        due.sentence("Which RULE goes at STEP k (1 to 60) of RUN i");
        ChanceRuns x = counter();
        due.is("at the first", x.goes(999999, 1), 0);
        due.is("at the 30th", x.goes(999999, 30), 0);
        due.is("at the 31st", x.goes(999999, 31), 1);
        due.is("at the 60th", x.goes(999999, 60), 1);
        String rules = "rule 1:a<1->a+1;rule 1:a<2->a+1;rule 1:a<3->a+1;rule 1:a<4->a+1;rule 1:a<5->a+1;rule 1:a<6->a+1;"
            + "rule 1:a<7->a+1;rule 1:a<8->a+1;rule 1:a<9->a+1;rule 1:a<10->a+1;rule 1:a<11->a+1;rule 1:a<12->a+1;";
        ChanceRuns y = Due.with("lots 1;var a 30 0;" + rules + "goal a=9;");
        for (int k = 1; k <= 60; k++) {
            due.is("at " + k, y.goes(0, k), k <= 12 ? k - 1 : -1);
        }
    }

    private static void goesNone() {
        due.sentence("goes: NONE: nothing changes.");
        due.is("no RULE", Due.with("lots 1;var a 2 2;goal a=0;").goes(0, 60), -1);
        due.is("none may go", Due.with("lots 1;var a 2 2;rule 1:a<2->a=0;goal a=0;").goes(0, 1), -1);
        // A RULE that goes is told, though its EFFECTS, once cut, leave all as it is.
        due.is("goes and is cut", Due.with("lots 1;var a 2 2;rule 1:->a+1;goal a=0;").goes(0, 60), 0);
        due.is("goes by 0", Due.with("lots 1;var a 2 1;rule 1:a=0->a+1;rule 1:->a-0;goal a=0;").goes(0, 60), 1);
    }

    private static void goesRefused() {
        due.sentence("goes: BAD; STATE.");
        ChanceRuns none = new ChanceRuns();
        ChanceRuns x = counter();
        due.is("without a MODEL", none.goes(0, 1), -3);
        due.is("without a MODEL, the last ones", none.goes(999999, 60), -3);
        for (int k : new int[] {0, -1, 61, Integer.MIN_VALUE, Integer.MAX_VALUE}) {
            due.is("k " + k, x.goes(0, k), -2);
            due.is("k " + k + " without a MODEL", none.goes(0, k), -2);
        }
        for (int i : NO_RUNS) {
            due.is("i " + i, x.goes(i, 1), -2);
            due.is("i " + i + " without a MODEL", none.goes(i, 1), -2);
        }
    }

    private static void movesOnce() {
        due.sentence("How many RULES have an EFFECT on a VAR.");
        ChanceRuns x = Due.with("lots 9;var a 4 0;var b 4 0;var c 4 0;var d 4 0;rule 1:c>0&d>0->a+1,a+1,a-1;"
            + "rule 1:->b=0,a+0;rule 1:c<1->d-1,b=1,a=1;rule 9:->a=4;rule 9:a=9->a=3;goal c=0;");
        due.is("a: one RULE once, and those that never go", x.moves(0), 5);
        due.is("b", x.moves(1), 2);
        due.is("c: asked for alone", x.moves(2), 0);
        due.is("d", x.moves(3), 1);
        ChanceRuns y = Due.with("lots 9;var a 4 0;var b 4 0;var c 4 0;rule 1:a=0->b+1;rule 1:a=0->c+1,b+1;rule 1:a=0->c+1;goal a=0;");
        due.is("a: asked for alone", y.moves(0), 0);
        due.is("b of two", y.moves(1), 2);
        due.is("c of two", y.moves(2), 2);
        due.is("all twelve", Due.with("lots 1;var a 1 0;" + "rule 1:->a+1;".repeat(12) + "goal a=1;").moves(0), 12);
        due.is("no RULE", Due.with("lots 1;var a 1 0;goal a=1;").moves(0), 0);
    }

    private static void movesRefused() {
        due.sentence("moves: BAD; STATE.");
        due.is("without a MODEL", new ChanceRuns().moves(0), -2);
        ChanceRuns x = counter();
        for (int var : new int[] {-1, 2, 3, 4, Integer.MIN_VALUE, Integer.MAX_VALUE}) {
            due.is("moves(" + var + ")", x.moves(var), -2);
        }
    }

    private static void largestModel() {
        due.sentence("W, 1 to 20 .. more than 1000 states (1000 states with 20 LOTS: the largest MODEL that is taken)");
        String vars = "lots 20;var a 9 9;var b 9 9;var c 9 9;";
        int[] rules = new int[20];
        rules[19] = 1;
        byNumber(vars + "rule 19:a=9&b=9&c=9->c-2;rule 1:->b-3;goal b=6;", 20, rules);
        rules[19] = -1;
        byNumber(vars + "rule 19:a=9&b=9&c=9->c-2;goal c=7;", 20, rules);
        ChanceRuns x = Due.with(vars + "rule 19:a=9&b=9&c=9->c-2;rule 1:->b-3;goal b=6;goal c=7;");
        for (int i = 0; i < 100; i++) {
            boolean isLast = Due.numbers(0, i, 20, 1)[1] == 19;
            due.is("a behind STEP 1 of RUN " + i, x.value(i, 1, 0), 9);
            due.is("b behind STEP 1 of RUN " + i, x.value(i, 1, 1), isLast ? 6 : 9);
            due.is("c behind STEP 1 of RUN " + i, x.value(i, 1, 2), isLast ? 9 : 7);
            due.is("holds, RUN " + i, x.holds(isLast ? 0 : 1, 1, i), 1);
        }
    }
}
