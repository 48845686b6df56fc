/** Each sentence of COUNTS (terms, 2) and of promises 13 to 15 (block, told, both) that names an edge. */
public final class CountEdgesTest {
    private static final String TEXT = "lots 10;var s 9 8;var i 9 1;rule 4:s>0&i>0->s-1,i+1;rule 3:i>0->i-1;"
        + "goal i=0;goal i>4;goal s=0;goal s>7;";
    private static final Due due = new Due("CountEdgesTest");

    public static void main(String[] args) {
        tenRuns();
        firstAndLastBlock();
        onceEach();
        inAnyOrder();
        otherClaims();
        sameClaim();
        otherCalls();
        eachSeed();
        eachModel();
        aFault();
        blockRefused();
        toldBefore();
        toldOfSteps();
        toldRefused();
        bothOfNoRuns();
        bothOf500();
        bothOfOneGoal();
        bothOfNoSteps();
        bothRefused();
        due.end();
    }

    /** What holds() says of the RUNS of these BLOCKS. */
    private static void toldAs(ChanceRuns x, ChanceRuns asked, int goal, int n, int... blocks) {
        int held = 0;
        int steps = 0;
        for (int b : blocks) {
            for (int i = 10 * b; i <= 10 * b + 9; i++) {
                int step = asked.holds(goal, n, i);
                held += step < 0 ? 0 : 1;
                steps += step < 0 ? 0 : step;
            }
        }
        toldAre(x, 10 * blocks.length, held, steps, goal, n);
    }

    private static void toldAre(ChanceRuns x, int... want) {
        for (int what = 0; what < 5; what++) {
            due.is("told(" + what + ")", x.told(what), want[what]);
        }
    }

    private static void tenRuns() {
        due.sentence("BLOCK b is RUNS 10 b to 10 b + 9");
        ChanceRuns asked = Due.with(TEXT);
        for (int b : new int[] {0, 1, 2, 63, 64, 65}) {
            ChanceRuns x = Due.with(TEXT);
            due.is("block " + b, x.block(0, 20, b), 1);
            toldAs(x, asked, 0, 20, b);
        }
    }

    private static void firstAndLastBlock() {
        due.sentence("(b 0 to 9999)");
        ChanceRuns x = Due.with(TEXT);
        due.is("the last", x.block(0, 60, 9999), 1);
        toldAs(x, Due.with(TEXT), 0, 60, 9999);
        due.is("the first", x.block(0, 60, 0), 2);
        toldAs(x, Due.with(TEXT), 0, 60, 0, 9999);
        due.is("one too many", x.block(0, 60, 10000), -2);
        due.is("one too few", x.block(0, 60, -1), -2);
        toldAs(x, Due.with(TEXT), 0, 60, 0, 9999);
    }

    private static void onceEach() {
        due.sentence("each BLOCK is counted once, whenever it is asked for");
        ChanceRuns x = Due.with(TEXT);
        int[] blocks = {0, 31, 32, 63, 64, 127, 128, 4095, 4096, 8191, 8192, 9983, 9984, 9998, 9999};
        for (int k = 0; k < blocks.length; k++) {
            due.is("block " + blocks[k], x.block(1, 20, blocks[k]), k + 1);
            due.is("at once again", x.block(1, 20, blocks[k]), k + 1);
        }
        for (int b : blocks) {
            due.is("again " + b, x.block(1, 20, b), blocks.length);
        }
        toldAs(x, Due.with(TEXT), 1, 20, blocks);
    }

    private static void inAnyOrder() {
        due.sentence("each BLOCK is counted .. whenever it is asked for (in any order)");
        ChanceRuns up = Due.with(TEXT);
        ChanceRuns down = Due.with(TEXT);
        for (int b = 0; b < 9; b++) {
            due.is("up", up.block(1, 20, b), b + 1);
            due.is("down", down.block(1, 20, 8 - b), b + 1);
        }
        toldAs(up, Due.with(TEXT), 1, 20, 0, 1, 2, 3, 4, 5, 6, 7, 8);
        toldAs(down, Due.with(TEXT), 1, 20, 0, 1, 2, 3, 4, 5, 6, 7, 8);
    }

    private static void otherClaims() {
        due.sentence("They begin anew with each other claim that is asked for");
        ChanceRuns x = Due.with(TEXT);
        ChanceRuns asked = Due.with(TEXT);
        x.block(0, 20, 3);
        x.block(0, 20, 4);
        due.is("another n", x.block(0, 21, 3), 1);
        toldAs(x, asked, 0, 21, 3);
        due.is("another GOAL", x.block(1, 21, 3), 1);
        toldAs(x, asked, 1, 21, 3);
        due.is("the first again, anew", x.block(0, 20, 4), 1);
        toldAs(x, asked, 0, 20, 4);
        due.is("and on", x.block(0, 20, 3), 2);
        due.is("GOAL and n exchanged", x.block(2, 0, 3), 1);
        due.is("back", x.block(0, 2, 3), 1);
        toldAs(x, asked, 0, 2, 3);
    }

    private static void sameClaim() {
        due.sentence("with each other claim (not with the same one, by a GOAL that is told alike as another)");
        ChanceRuns x = Due.with("lots 2;var a 1 0;rule 1:->a=1;goal a=1;goal a=1;");
        due.is("GOAL 0", x.block(0, 5, 0), 1);
        due.is("GOAL 0 again", x.block(0, 5, 1), 2);
        due.is("GOAL 1, alike", x.block(1, 5, 1), 1);
        due.is("its GOAL", x.told(3), 1);
    }

    private static void otherCalls() {
        due.sentence("COUNTS of a claim (calls that count none leave them)");
        ChanceRuns x = Due.with(TEXT);
        x.block(0, 20, 3);
        x.holds(1, 5, 0);
        x.value(0, 5, 0);
        x.goes(0, 5);
        x.exact(1, 5);
        x.sum(1, 5);
        x.reached();
        x.both(1, 2, 5, 5, 0);
        x.test(1, 5, 1, 2, 2, 0);
        x.split(1, 5, 0, 1, 1, 0);
        x.feed(0, 1);
        toldAs(x, Due.with(TEXT), 0, 20, 3);
        due.is("on", x.block(0, 20, 4), 2);
    }

    private static void eachSeed() {
        due.sentence("They begin anew with .. each seed()");
        ChanceRuns x = Due.with(TEXT);
        for (long z : new long[] {0, 0, 9, 9, -1}) {
            x.block(0, 20, 3);
            due.is("seed(" + z + ")", x.seed(z), 1);
            toldAre(x, 0, 0, 0, -1, -1);
            ChanceRuns asked = Due.with(TEXT);
            asked.seed(z);
            due.is("the same claim", x.block(0, 20, 3), 1);
            toldAs(x, asked, 0, 20, 3);
        }
    }

    private static void eachModel() {
        due.sentence("They begin anew with .. each MODEL that is taken");
        ChanceRuns x = Due.with(TEXT);
        x.block(0, 20, 3);
        due.is("the same text", Due.model(x, TEXT), 100);
        toldAre(x, 0, 0, 0, -1, -1);
        due.is("the same claim", x.block(0, 20, 3), 1);
        Due.model(x, "lots 1;var a 9 0;rule 1:->a+1;goal a=3;");
        toldAre(x, 0, 0, 0, -1, -1);
        due.is("the same claim of another MODEL", x.block(0, 20, 3), 1);
        toldAre(x, 10, 10, 30, 0, 20);
    }

    private static void aFault() {
        due.sentence("each MODEL that is taken (not one with a FAULT)");
        ChanceRuns x = Due.with(TEXT);
        x.block(0, 20, 3);
        Due.model(x, TEXT + ";");
        Due.model(x, "");
        toldAs(x, Due.with(TEXT), 0, 20, 3);
        due.is("on", x.block(0, 20, 4), 2);
    }

    private static void blockRefused() {
        due.sentence("block: BAD: GOAL, n, b; STATE.");
        ChanceRuns none = new ChanceRuns();
        due.is("without a MODEL", none.block(0, 0, 0), -2);
        toldAre(none, 0, 0, 0, -1, -1);
        ChanceRuns x = Due.with(TEXT);
        x.block(0, 20, 3);
        for (int bad : new int[] {-1, 10000, Integer.MIN_VALUE, Integer.MAX_VALUE}) {
            due.is("b " + bad, x.block(1, 20, bad), -2);
            due.is("n " + bad, x.block(1, bad, 0), -2);
            due.is("GOAL " + bad, x.block(bad, 20, 0), -2);
        }
        due.is("GOAL 4", x.block(4, 20, 0), -2);
        due.is("n 61", x.block(1, 61, 0), -2);
        toldAs(x, Due.with(TEXT), 0, 20, 3);
        due.is("the last GOAL and n", x.block(3, 60, 0), 1);
    }

    private static void toldBefore() {
        due.sentence("told: 3 its GOAL (NONE), 4 its n (NONE).");
        toldAre(new ChanceRuns(), 0, 0, 0, -1, -1);
        ChanceRuns x = Due.with(TEXT);
        toldAre(x, 0, 0, 0, -1, -1);
        x.block(3, 0, 9999);
        // It HOLDS at first: each of 10 RUNS at STEP 0.
        toldAre(x, 10, 10, 0, 3, 0);
    }

    private static void toldOfSteps() {
        due.sentence("told: 1 how many HOLD, 2 the sum of the STEPS at which they do");
        ChanceRuns x = Due.with("lots 1;var a 30 0;var b 30 0;rule 1:a<30->a+1;rule 1:b<30->b+1;goal b=30;goal a=1;goal a>30;");
        x.block(0, 60, 0);
        toldAre(x, 10, 10, 600, 0, 60);
        x.block(0, 60, 9999);
        toldAre(x, 20, 20, 1200, 0, 60);
        x.block(0, 59, 5);
        toldAre(x, 10, 0, 0, 0, 59);
        x.block(1, 1, 5);
        toldAre(x, 10, 10, 10, 1, 1);
        x.block(2, 60, 5);
        toldAre(x, 10, 0, 0, 2, 60);
    }

    private static void toldRefused() {
        due.sentence("told: BAD.");
        ChanceRuns none = new ChanceRuns();
        ChanceRuns x = Due.with(TEXT);
        x.block(0, 20, 3);
        for (int what : new int[] {-1, 5, 6, Integer.MIN_VALUE, Integer.MAX_VALUE}) {
            due.is("told(" + what + ") without a MODEL", none.told(what), -2);
            due.is("told(" + what + ")", x.told(what), -2);
        }
    }

    private static void bothOfNoRuns() {
        due.sentence("Of RUNS 0 to m - 1 (m 0 to 500): m 0");
        ChanceRuns x = Due.with(TEXT);
        for (int what = 0; what < 4; what++) {
            due.is("what " + what, x.both(0, 1, 20, 0, what), 0);
        }
        due.is("m 1 is RUN 0", x.both(3, 3, 20, 1, 0), 1);
    }

    private static void bothOf500() {
        due.sentence("Of RUNS 0 to m - 1 (m 0 to 500), two GOALS within n STEPS");
        boolean[][] holds = new boolean[4][500];
        for (int goal = 0; goal < 4; goal++) {
            ChanceRuns asked = Due.with(TEXT);
            for (int i = 0; i < 490; i++) {
                holds[goal][i] = asked.holds(goal, 12, i) >= 0;
            }
            ChanceRuns rest = Due.with(TEXT);
            for (int i = 490; i < 500; i++) {
                holds[goal][i] = rest.holds(goal, 12, i) >= 0;
            }
        }
        for (int m : new int[] {1, 2, 3, 10, 499, 500}) {
            ChanceRuns x = Due.with(TEXT);
            for (int a = 0; a < 4; a++) {
                for (int b = 0; b < 4; b++) {
                    int[] found = new int[4];
                    for (int i = 0; i < m; i++) {
                        found[(holds[a][i] ? 0 : 2) + (holds[b][i] ? 0 : 1)]++;
                    }
                    for (int what = 0; what < 4; what++) {
                        due.is("both(" + a + ", " + b + ", 12, " + m + ", " + what + ")", x.both(a, b, 12, m, what), found[what]);
                    }
                }
            }
        }
    }

    private static void bothOfOneGoal() {
        due.sentence("0 both HOLD, 1 the first alone, 2 the second alone, 3 neither (of one GOAL twice: never alone)");
        ChanceRuns x = Due.with(TEXT);
        for (int goal = 0; goal < 4; goal++) {
            due.is("the first alone", x.both(goal, goal, 12, 500, 1), 0);
            due.is("the second alone", x.both(goal, goal, 12, 500, 2), 0);
            due.is("both or neither", x.both(goal, goal, 12, 500, 0) + x.both(goal, goal, 12, 500, 3), 500);
        }
        // One is there at first and gone, the other comes at the last STEP: both HOLD.
        ChanceRuns y = Due.with("lots 1;var a 30 0;rule 1:->a+1;goal a=0;goal a=9;goal a=30;");
        due.is("at different STEPS", y.both(0, 1, 9, 7, 0), 7);
        due.is("too few STEPS", y.both(0, 1, 8, 7, 1), 7);
        due.is("too few STEPS, the other way", y.both(1, 0, 8, 7, 2), 7);
        due.is("neither", y.both(1, 2, 8, 7, 3), 7);
    }

    private static void bothOfNoSteps() {
        due.sentence("two GOALS within n STEPS (n 0 and 60)");
        ChanceRuns x = Due.with("lots 1;var a 30 0;var b 30 0;rule 1:a<30->a+1;rule 1:b<30->b+1;goal a=0;goal b=30;");
        due.is("n 0", x.both(0, 1, 0, 500, 1), 500);
        due.is("n 59", x.both(0, 1, 59, 500, 1), 500);
        due.is("n 60", x.both(0, 1, 60, 500, 0), 500);
    }

    private static void bothRefused() {
        due.sentence("both: BAD; STATE.");
        due.is("without a MODEL", new ChanceRuns().both(0, 0, 0, 0, 0), -2);
        ChanceRuns x = Due.with("lots 1;var a 3 0;goal a=0;goal a=1;goal a=2;");
        for (int bad : new int[] {-1, 501, 1000, Integer.MIN_VALUE, Integer.MAX_VALUE}) {
            due.is("m " + bad, x.both(0, 1, 5, bad, 0), -2);
            due.is("n " + bad, x.both(0, 1, bad, 5, 0), -2);
            due.is("a " + bad, x.both(bad, 1, 5, 5, 0), -2);
            due.is("b " + bad, x.both(0, bad, 5, 5, 0), -2);
            due.is("what " + bad, x.both(0, 1, 5, 5, bad), -2);
        }
        due.is("a 3", x.both(3, 1, 5, 5, 0), -2);
        due.is("b 3", x.both(0, 3, 5, 5, 0), -2);
        due.is("n 61", x.both(0, 1, 61, 5, 0), -2);
        due.is("what 4", x.both(0, 1, 5, 5, 4), -2);
        due.is("m 0 refuses no less", x.both(0, 3, 5, 0, 0), -2);
        due.is("the last ones", x.both(2, 2, 60, 500, 3), 500);
    }
}
