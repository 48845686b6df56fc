/** Each sentence of SPLIT (terms, 3) and of promise 19 that names an edge. */
public final class SplitEdgesTest {
    private static final Due due = new Due("SplitEdgesTest");

    public static void main(String[] args) {
        levelsAtMost();
        levelsAboveTheVar();
        copies();
        atFirst();
        behindAStep();
        moreThanOne();
        firstTimeOnly();
        stepsThatAreLeft();
        noSteps();
        levelAheadOfHolding();
        endsThere();
        oneLot();
        inTheirOrder();
        oneCopyIsARun();
        firstAndLastRun();
        fullAbove20000();
        fullLeavesNothing();
        refused();
        due.end();
    }

    private static void levelsAtMost() {
        due.sentence("LEVELS are values 1, 2, .. of a VAR, c at most (1 to 5)");
        for (int value = 0; value <= 9; value++) {
            ChanceRuns x = Due.with("lots 1;var l 9 " + value + ";goal l<10;");
            for (int c = 1; c <= 5; c++) {
                due.is("value " + value + ", c " + c, x.split(0, 0, 0, c, 2, 0), 1 << Math.min(value, c));
            }
            due.is("c 0", x.split(0, 0, 0, 0, 2, 0), -2);
            due.is("c 6", x.split(0, 0, 0, 6, 2, 0), -2);
        }
    }

    private static void levelsAboveTheVar() {
        due.sentence("LEVELS are values 1, 2, .. of a VAR (there may be fewer values than LEVELS)");
        ChanceRuns x = Due.with("lots 1;var l 2 2;var o 0 0;goal l=2;");
        due.is("a VAR up to 2", x.split(0, 3, 0, 5, 3, 0), 9);
        due.is("a VAR that is 0 alone", x.split(0, 3, 1, 5, 3, 0), 1);
    }

    private static void copies() {
        due.sentence("R copies (1 to 4) .. for each LEVEL passed (R times R, and so on)");
        ChanceRuns x = Due.with("lots 1;var l 9 5;goal l=5;");
        int[] powers = {1, 32, 243, 1024};
        for (int r = 1; r <= 4; r++) {
            due.is("R " + r + ", five LEVELS", x.split(0, 0, 0, 5, r, 0), powers[r - 1]);
            due.is("R " + r + ", one LEVEL", x.split(0, 0, 0, 1, r, 0), r);
        }
        due.is("R 0", x.split(0, 0, 0, 5, 0, 0), -2);
        due.is("R 5", x.split(0, 0, 0, 5, 5, 0), -2);
    }

    private static void atFirst() {
        due.sentence("when its VAR is for the first time at a LEVEL or above (.. at first");
        ChanceRuns x = Due.with("lots 1;var l 9 1;var m 9 0;rule 1:->m+1;goal m=3;");
        due.is("at LEVEL 1 at first", x.split(0, 3, 0, 5, 4, 0), 4);
        due.is("not at a LEVEL at first", x.split(0, 3, 1, 5, 4, 0), 64);
        due.is("not at a LEVEL but one", x.split(0, 3, 1, 1, 4, 0), 4);
    }

    private static void behindAStep() {
        due.sentence("(.. or behind a STEP");
        ChanceRuns x = Due.with("lots 1;var l 9 0;rule 1:->l+1;goal l=1;goal l=2;goal l=9;");
        due.is("at the last STEP of 1", x.split(0, 1, 0, 5, 3, 0), 3);
        due.is("at the last STEP of 2", x.split(1, 2, 0, 5, 3, 0), 9);
        due.is("one STEP too few", x.split(1, 1, 0, 5, 3, 0), 0);
        due.is("far behind the LEVELS", x.split(2, 9, 0, 5, 3, 0), 243);
    }

    private static void moreThanOne() {
        due.sentence("more than one may be passed at once");
        ChanceRuns x = Due.with("lots 1;var l 30 0;rule 1:l=0->l=2;rule 1:l=2->l=30;goal l=2;goal l=30;");
        due.is("two at once", x.split(0, 9, 0, 5, 3, 0), 9);
        due.is("two, then three", x.split(1, 9, 0, 5, 3, 0), 243);
        due.is("two, then one of three", x.split(1, 9, 0, 3, 3, 0), 27);
        due.is("one of two", x.split(0, 9, 0, 1, 3, 0), 3);
    }

    private static void firstTimeOnly() {
        due.sentence("for the first time (one after the other)");
        ChanceRuns x = Due.with("lots 1;var l 9 0;var t 30 0;rule 1:t=0->l=2,t+1;rule 1:t=1->l=0,t+1;rule 1:t=2->l=2,t+1;"
            + "rule 1:t=3->l=1,t+1;rule 1:t=4->l=3,t+1;rule 1:t=5->l=3,t+1;goal t=3;goal t=4;goal t=5;goal t=6;");
        due.is("down and up again", x.split(0, 9, 0, 5, 4, 0), 16);
        due.is("and to a lower one", x.split(1, 9, 0, 5, 4, 0), 16);
        due.is("then to a new one", x.split(2, 9, 0, 5, 4, 0), 64);
        due.is("and there it stays", x.split(3, 9, 0, 5, 4, 0), 64);
    }

    private static void stepsThatAreLeft() {
        due.sentence("which all go on with the STEPS that are left");
        ChanceRuns x = Due.with("lots 1;var l 9 0;var t 30 0;rule 1:t=4->l=1,t+1;rule 1:->t+1;goal t=9;");
        due.is("just as many as are left", x.split(0, 9, 0, 1, 4, 0), 4);
        due.is("one too few", x.split(0, 8, 0, 1, 4, 0), 0);
        due.is("more", x.split(0, 60, 0, 1, 4, 0), 4);
    }

    private static void noSteps() {
        due.sentence("A RUN i of n STEPS by LEVELS (n 0)");
        ChanceRuns x = Due.with("lots 1;var l 9 3;rule 1:->l=0;goal l=3;goal l=0;");
        due.is("there at first", x.split(0, 0, 0, 3, 4, 0), 64);
        due.is("not at first", x.split(1, 0, 0, 3, 4, 0), 0);
        due.is("one STEP", x.split(1, 1, 0, 3, 4, 0), 64);
    }

    private static void levelAheadOfHolding() {
        due.sentence("(A LEVEL is asked ahead of HOLDING.)");
        ChanceRuns x = Due.with("lots 1;var l 9 0;rule 1:->l+1;goal l=1;goal l<1;goal l>0;");
        due.is("the STEP that HOLDS passes a LEVEL", x.split(0, 5, 0, 1, 4, 0), 4);
        due.is("HOLDS ahead of all LEVELS", x.split(1, 5, 0, 1, 4, 0), 1);
        ChanceRuns y = Due.with("lots 1;var l 9 2;goal l=2;");
        due.is("at first both", y.split(0, 5, 0, 5, 4, 0), 16);
    }

    private static void endsThere() {
        due.sentence("one that HOLDS ends there, and counts 1");
        // It would pass LEVELS 2 to 5, were it to go on.
        ChanceRuns x = Due.with("lots 1;var l 9 0;rule 1:->l+1;goal l=1;");
        due.is("no copies behind HOLDING", x.split(0, 60, 0, 5, 4, 0), 4);
        // It takes no further numbers: of two copies the second begins where the first one ended.
        ChanceRuns y = Due.with("lots 2;var l 1 1;var d 2 2;rule 1:->d=0;rule 1:->d=1;goal d=0;");
        for (int i = 0; i < 60; i++) {
            int[] d = Due.numbers(0, i, 2, 12);
            int at = 0;
            int held = 0;
            for (int copy = 0; copy < 4; copy++) {
                for (int k = 0; k < 3; k++) {
                    at++;
                    if (d[at] == 0) {
                        held++;
                        break;
                    }
                }
            }
            due.is("four copies of three STEPS, RUN " + i, y.split(0, 3, 0, 1, 4, i), held);
        }
    }

    private static void oneLot() {
        due.sentence("all STEPS take their d from one LOT, that of RUN i, as they come");
        ChanceRuns x = Due.with("lots 2;var l 1 1;var d 2 2;rule 1:->d=0;rule 1:->d=1;goal d=0;");
        x.seed(-5);
        for (int i = 0; i < 60; i++) {
            int[] d = Due.numbers(-5, i, 2, 4);
            due.is("four copies of one STEP, RUN " + i, x.split(0, 1, 0, 1, 4, i), 4 - d[1] - d[2] - d[3] - d[4]);
        }
    }

    private static int[] numbers;
    private static int taken;

    /** A way up and down by d 0 and 1 of 3; it HOLDS at 5. */
    private static int heldBy(int l, int passed, int c, int r, int left) {
        if (passed < c && l > passed) {
            int held = 0;
            for (int copy = 0; copy < r; copy++) {
                held += heldBy(l, passed + 1, c, r, left);
            }
            return held;
        }
        if (l == 5 || left == 0) {
            return l == 5 ? 1 : 0;
        }
        taken++;
        int d = taken < numbers.length ? numbers[taken] : 2;
        // At 0 the second RULE may not go: d 1 is beyond.
        int next = l == 0 ? (d == 0 ? 1 : 0) : d == 0 ? l + 1 : d == 1 ? l - 1 : l;
        return heldBy(next, passed, c, r, left - 1);
    }

    private static void inTheirOrder() {
        due.sentence("in the order in which they are made, each with all copies that come of it ahead of the next one");
        ChanceRuns x = Due.with("lots 3;var l 9 0;rule 1:l<5->l+1;rule 1:l>0->l-1;goal l=5;");
        int[] runs = {0, 1, 2, 3, 40, 999999};
        for (int i : runs) {
            numbers = Due.numbers(0, i, 3, 20001);
            for (int c = 1; c <= 5; c++) {
                for (int r = 1; r <= 4; r++) {
                    for (int n : new int[] {7, 25, 60}) {
                        taken = 0;
                        int held = heldBy(0, 0, c, r, n);
                        due.is("split(0, " + n + ", 0, " + c + ", " + r + ", " + i + ")", x.split(0, n, 0, c, r, i),
                            taken > 20000 ? -4 : held);
                    }
                }
            }
        }
    }

    private static void oneCopyIsARun() {
        due.sentence("R copies (1): a RUN as it is");
        ChanceRuns x = Due.with("lots 3;var l 9 0;rule 1:l<5->l+1;rule 1:l>0->l-1;goal l=5;");
        for (int i = 0; i < 60; i++) {
            due.is("RUN " + i, x.split(0, 60, 0, 5, 1, i), x.holds(0, 60, i) < 0 ? 0 : 1);
        }
    }

    private static void firstAndLastRun() {
        due.sentence("SPLIT of RUN i (0 to 999999)");
        ChanceRuns x = Due.with("lots 2;var l 1 1;var d 2 2;rule 1:->d=0;rule 1:->d=1;goal d=0;");
        for (int i : new int[] {0, 999998, 999999}) {
            int[] d = Due.numbers(0, i, 2, 4);
            due.is("RUN " + i, x.split(0, 1, 0, 1, 4, i), 4 - d[1] - d[2] - d[3] - d[4]);
        }
        due.is("RUN 1000000", x.split(0, 1, 0, 1, 4, 1000000), -2);
        due.is("RUN -1", x.split(0, 1, 0, 1, 4, -1), -2);
    }

    private static void fullAbove20000() {
        due.sentence("A SPLIT of more than 20000 STEPS is FULL.");
        // 16 copies of 2 STEPS, 256 of 2, 1024 of 19: 20000 in all.
        ChanceRuns x = Due.with("lots 1;var l 5 2;var t 30 0;rule 1:t=1->l=4,t+1;rule 1:t=3->l=5,t+1;rule 1:->t+1;"
            + "goal t=23;goal l=9;goal t=24;");
        due.is("20000 STEPS, all HOLD", x.split(0, 23, 0, 5, 4, 0), 1024);
        due.is("20000 STEPS, HELD ahead of more", x.split(0, 60, 0, 5, 4, 0), 1024);
        due.is("20000 STEPS, none HOLDS", x.split(1, 23, 0, 5, 4, 0), 0);
        due.is("21024 STEPS", x.split(2, 24, 0, 5, 4, 0), -4);
        // One STEP more, ahead of the first LEVEL: 20001.
        ChanceRuns y = Due.with("lots 1;var l 5 0;var t 30 0;rule 1:t=0->l=2,t+1;rule 1:t=2->l=4,t+1;rule 1:t=4->l=5,t+1;"
            + "rule 1:->t+1;goal t=24;goal t=23;");
        due.is("20001 STEPS", y.split(0, 24, 0, 5, 4, 0), -4);
        due.is("18977 STEPS", y.split(1, 24, 0, 5, 4, 0), 1024);
        // 1024 copies of 60 STEPS each, and none but one of 60.
        ChanceRuns z = Due.with("lots 1;var l 30 5;var o 9 0;goal l=0;");
        due.is("61440 STEPS", z.split(0, 60, 0, 5, 4, 0), -4);
        due.is("60 STEPS", z.split(0, 60, 1, 5, 4, 0), 0);
        due.is("19456 STEPS", z.split(0, 19, 0, 5, 4, 0), 0);
        due.is("20480 STEPS", z.split(0, 20, 0, 5, 4, 0), -4);
        due.is("14580 STEPS", z.split(0, 60, 0, 5, 3, 0), 0);
    }

    private static void fullLeavesNothing() {
        due.sentence("split: FULL (what is refused changes nothing)");
        ChanceRuns x = Due.with("lots 1;var l 30 5;var o 9 0;rule 1:->o+1;goal l=0;goal o=3;");
        due.is("FULL", x.split(0, 60, 0, 5, 4, 0), -4);
        due.is("five LEVELS behind FULL", x.split(1, 3, 0, 5, 4, 0), 1024);
        due.is("FULL again", x.split(0, 60, 0, 5, 4, 7), -4);
        due.is("one LEVEL behind FULL", x.split(1, 3, 0, 1, 4, 0), 4);
        due.is("no LEVEL passed behind FULL", x.split(1, 2, 1, 1, 1, 0), 0);
        // Copies wait at each LEVEL when it is FULL; a way past all of them at once meets none of these.
        ChanceRuns y = Due.with("lots 1;var l 9 0;var m 9 0;rule 1:l<9->l+1,m=9;goal l=0&m>0;goal l=1;");
        due.is("FULL by single LEVELS", y.split(0, 60, 0, 5, 4, 0), -4);
        due.is("all LEVELS at once", y.split(1, 9, 1, 5, 4, 0), 1024);
        due.is("FULL once more", y.split(0, 60, 0, 5, 4, 0), -4);
        due.is("one LEVEL", y.split(1, 9, 0, 1, 3, 0), 3);
    }

    private static void refused() {
        due.sentence("split: BAD: GOAL, n, VAR, c, R, i; STATE; FULL.");
        due.is("without a MODEL", new ChanceRuns().split(0, 0, 0, 1, 1, 0), -2);
        // All but the wrong number would make it FULL: BAD is ahead.
        ChanceRuns x = Due.with("lots 1;var l 30 5;goal l=0;goal l=1;");
        for (int bad : new int[] {-1, Integer.MIN_VALUE, Integer.MAX_VALUE, 1000000}) {
            due.is("GOAL " + bad, x.split(bad, 60, 0, 5, 4, 0), -2);
            due.is("n " + bad, x.split(0, bad, 0, 5, 4, 0), -2);
            due.is("VAR " + bad, x.split(0, 60, bad, 5, 4, 0), -2);
            due.is("c " + bad, x.split(0, 60, 0, bad, 4, 0), -2);
            due.is("R " + bad, x.split(0, 60, 0, 5, bad, 0), -2);
            due.is("i " + bad, x.split(0, 60, 0, 5, 4, bad), -2);
        }
        due.is("GOAL 2", x.split(2, 60, 0, 5, 4, 0), -2);
        due.is("n 61", x.split(0, 61, 0, 5, 4, 0), -2);
        due.is("VAR 1", x.split(0, 60, 1, 5, 4, 0), -2);
        due.is("c 0", x.split(0, 60, 0, 0, 4, 0), -2);
        due.is("c 6", x.split(0, 60, 0, 6, 4, 0), -2);
        due.is("R 0", x.split(0, 60, 0, 5, 0, 0), -2);
        due.is("R 5", x.split(0, 60, 0, 5, 5, 0), -2);
        due.is("none of these", x.split(1, 60, 0, 5, 4, 999999), -4);
    }
}
