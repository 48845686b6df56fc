/** Promises 13 to 15: block, told, both. */
public final class CountsTest {
    private static final String TEXT = "lots 10;var s 9 8;var i 9 1;rule 4:s>0&i>0->s-1,i+1;rule 3:i>0->i-1;"
        + "goal i=0;goal i>4;goal s=0;goal s>8;";
    private static final Due due = new Due("CountsTest");

    public static void main(String[] args) {
        byHolds();
        onceEach();
        anew();
        refused();
        both();
        due.end();
    }

    private static void told(ChanceRuns x, int goal, int n, int... blocks) {
        int held = 0;
        int steps = 0;
        for (int b : blocks) {
            for (int i = 10 * b; i < 10 * b + 10; i++) {
                int step = x.holds(goal, n, i);
                held += step < 0 ? 0 : 1;
                steps += step < 0 ? 0 : step;
            }
        }
        due.is("RUNS", x.told(0), 10 * blocks.length);
        due.is("how many hold", x.told(1), held);
        due.is("their STEPS", x.told(2), steps);
        due.is("GOAL", x.told(3), goal);
        due.is("n", x.told(4), n);
    }

    private static void byHolds() {
        ChanceRuns x = Due.with(TEXT);
        for (int goal = 0; goal < 4; goal++) {
            for (int n = 0; n <= 60; n += 15) {
                due.is("block 7", x.block(goal, n, 7), 1);
                told(x, goal, n, 7);
                due.is("block 9999", x.block(goal, n, 9999), 2);
                due.is("block 0", x.block(goal, n, 0), 3);
                told(x, goal, n, 0, 7, 9999);
            }
        }
    }

    private static void onceEach() {
        ChanceRuns x = Due.with(TEXT);
        for (int b = 0; b < 130; b++) {
            due.is("block " + 77 * b, x.block(0, 20, 77 * b), b + 1);
        }
        int held = x.told(1);
        for (int b = 129; b >= 0; b--) {
            due.is("block again " + 77 * b, x.block(0, 20, 77 * b), 130);
        }
        due.is("held as before", x.told(1), held);
        due.is("RUNS as before", x.told(0), 1300);
        due.is("64 more is another one", x.block(0, 20, 64), 131);
        due.is("and 128", x.block(0, 20, 128), 132);
    }

    private static void anew() {
        ChanceRuns x = Due.with(TEXT);
        x.block(0, 20, 3);
        due.is("another n", x.block(0, 21, 3), 1);
        told(x, 0, 21, 3);
        due.is("another GOAL", x.block(1, 21, 3), 1);
        told(x, 1, 21, 3);
        due.is("back", x.block(0, 20, 3), 1);
        due.is("and on", x.block(0, 20, 4), 2);
        // Other calls that ask for claims count nothing.
        x.holds(1, 5, 0);
        x.exact(1, 5);
        x.both(1, 2, 5, 5, 0);
        x.test(1, 5, 1, 2, 2, 0);
        x.split(1, 5, 0, 1, 1, 0);
        told(x, 0, 20, 3, 4);
        x.seed(9);
        due.is("no RUNS", x.told(0), 0);
        due.is("none holds", x.told(1), 0);
        due.is("no STEPS", x.told(2), 0);
        due.is("no GOAL", x.told(3), -1);
        due.is("no n", x.told(4), -1);
        due.is("behind seed", x.block(0, 20, 4), 1);
        told(x, 0, 20, 4);
        Due.model(x, TEXT);
        due.is("no RUNS behind model", x.told(0), 0);
        due.is("no GOAL behind model", x.told(3), -1);
        due.is("behind model", x.block(0, 20, 4), 1);
    }

    private static void refused() {
        ChanceRuns none = new ChanceRuns();
        due.is("block without a model", none.block(0, 0, 0), -2);
        due.is("both without a model", none.both(0, 0, 0, 0, 0), -2);
        ChanceRuns x = Due.with(TEXT);
        x.block(0, 20, 3);
        for (int bad : new int[] {-1, 10000, Integer.MIN_VALUE, Integer.MAX_VALUE}) {
            due.is("block b " + bad, x.block(1, 20, bad), -2);
            due.is("block n " + bad, x.block(1, bad, 0), -2);
            due.is("block goal " + bad, x.block(bad, 20, 0), -2);
            due.is("told " + bad, x.told(bad), -2);
        }
        due.is("block goal 4", x.block(4, 20, 0), -2);
        due.is("block n 61", x.block(0, 61, 0), -2);
        due.is("told 5", x.told(5), -2);
        told(x, 0, 20, 3);
    }

    private static void both() {
        ChanceRuns x = Due.with(TEXT);
        x.seed(-77);
        int[] sizes = {0, 1, 33, 500};
        for (int a = 0; a < 4; a++) {
            for (int b = 0; b < 4; b++) {
                for (int m : sizes) {
                    int[] found = new int[4];
                    for (int i = 0; i < m; i++) {
                        boolean first = x.holds(a, 15, i) >= 0;
                        boolean second = x.holds(b, 15, i) >= 0;
                        found[(first ? 0 : 2) + (second ? 0 : 1)]++;
                    }
                    due.is("both hold", x.both(a, b, 15, m, 0), found[0]);
                    due.is("the first alone", x.both(a, b, 15, m, 1), found[1]);
                    due.is("the second alone", x.both(a, b, 15, m, 2), found[2]);
                    due.is("neither", x.both(a, b, 15, m, 3), found[3]);
                }
            }
        }
        for (int bad : new int[] {-1, 501, Integer.MIN_VALUE, Integer.MAX_VALUE}) {
            due.is("both m " + bad, x.both(0, 1, 15, bad, 0), -2);
            due.is("both n " + bad, x.both(0, 1, bad, 5, 0), -2);
            due.is("both a " + bad, x.both(bad, 1, 15, 5, 0), -2);
            due.is("both b " + bad, x.both(0, bad, 15, 5, 0), -2);
            due.is("both what " + bad, x.both(0, 1, 15, 5, bad), -2);
        }
        due.is("both what 4", x.both(0, 1, 15, 5, 4), -2);
        due.is("both goal 4", x.both(4, 1, 15, 5, 0), -2);
        due.is("both other goal 4", x.both(0, 4, 15, 5, 0), -2);
        due.is("both n 61", x.both(0, 1, 61, 5, 0), -2);
        due.is("both n 60", x.both(0, 0, 60, 5, 0) + x.both(0, 0, 60, 5, 3), 5);
    }
}
