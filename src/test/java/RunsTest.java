/** Promises 7 to 9: holds, value, goes; and of the terms the STEP and the LOT of a RUN. */
public final class RunsTest {
    private static final Due due = new Due("RunsTest");

    public static void main(String[] args) {
        lots();
        weights();
        effects();
        conds();
        holds();
        wrongNumbers();
        due.end();
    }

    /** Each RULE has one number, and writes it down: the values are the numbers d. */
    private static void lots() {
        StringBuilder text = new StringBuilder("lots 12;var d 12 12;");
        for (int r = 0; r < 12; r++) {
            text.append("rule 1:->d=").append(r).append(';');
        }
        ChanceRuns x = Due.with(text + "goal d=3;");
        long[] seeds = {0, 1, -1, Long.MAX_VALUE, Long.MIN_VALUE, 987654321987654321L};
        int[] runs = {0, 1, 2, 77, 999999};
        for (long seed : seeds) {
            x.seed(seed);
            for (int run : runs) {
                int[] d = Due.numbers(seed, run, 12, 60);
                int first = -1;
                for (int k = 1; k <= 60; k++) {
                    due.is("value of run " + run + " behind " + k, x.value(run, k, 0), d[k]);
                    due.is("goes of run " + run + " at " + k, x.goes(run, k), d[k]);
                    first = first < 0 && d[k] == 3 ? k : first;
                    due.is("holds of run " + run + " within " + k, x.holds(0, k, run), first);
                }
                due.is("value at first", x.value(run, 0, 0), 12);
            }
        }
    }

    /** RULES that may not go have no numbers; what is beyond them changes nothing. */
    private static void weights() {
        ChanceRuns x = Due.with("lots 20;var a 1 0;var b 30 0;"
            + "rule 3:a=1->a=0;rule 5:->b+1;rule 7:a=0->a=1;rule 20:a=1->b=0;goal b=30;");
        int[] d = Due.numbers(0, 4, 20, 60);
        int a = 0;
        int b = 0;
        for (int k = 1; k <= 60; k++) {
            int rule = a == 0
                ? (d[k] < 5 ? 1 : d[k] < 12 ? 2 : -1)
                : (d[k] < 3 ? 0 : d[k] < 8 ? 1 : 3);
            due.is("goes at " + k, x.goes(4, k), rule);
            a = rule == 0 ? 0 : rule == 2 ? 1 : a;
            b = rule == 1 ? Math.min(30, b + 1) : rule == 3 ? 0 : b;
            due.is("a behind " + k, x.value(4, k, 0), a);
            due.is("b behind " + k, x.value(4, k, 1), b);
        }
        // Weights that sum up to more than W: the first has all numbers.
        ChanceRuns y = Due.with("lots 3;var a 9 0;rule 3:->a+1;rule 3:->a=9;goal a=9;");
        for (int k = 1; k <= 12; k++) {
            due.is("the first rule", y.goes(0, k), 0);
            due.is("its effect", y.value(0, k, 0), Math.min(9, k));
        }
        // A RULE goes, though its EFFECT is cut to what there is.
        ChanceRuns z = Due.with("lots 1;var a 2 2;rule 1:->a+5;goal a=0;");
        due.is("goes without a change", z.goes(0, 60), 0);
        due.is("no rule", Due.with("lots 1;var a 2 2;goal a=0;").goes(0, 1), -1);
    }

    private static int behindOne(String most, String effects) {
        return Due.with("lots 1;var a " + most + ";var b 7 5;rule 1:->" + effects + ";goal a=0;").value(0, 1, 0);
    }

    private static void effects() {
        due.is("becomes", behindOne("9 4", "a=7"), 7);
        due.is("becomes, cut", behindOne("9 4", "a=10"), 9);
        due.is("more", behindOne("9 4", "a+3"), 7);
        due.is("more, cut", behindOne("9 4", "a+99"), 9);
        due.is("less", behindOne("9 4", "a-3"), 1);
        due.is("less, cut", behindOne("9 4", "a-99"), 0);
        due.is("one behind the other, each cut", behindOne("9 4", "a+99,a-2"), 7);
        due.is("three", behindOne("9 4", "a-99,a+5,a+1"), 6);
        due.is("by 0", behindOne("9 4", "a+0,a-0"), 4);
        due.is("the last becomes", behindOne("9 4", "a+1,b=1,a=2"), 2);
        due.is("another VAR", behindOne("9 4", "b=1"), 4);
        due.is("the other VAR", Due.with("lots 1;var a 9 4;var b 7 5;rule 1:->b=1;goal a=0;").value(0, 1, 1), 1);
    }

    private static void holdsAtFirst(String conds, int want) {
        due.is("at first " + conds, Due.with("lots 1;var a 9 4;var b 7 5;goal " + conds + ";").holds(0, 0, 0), want);
    }

    private static void conds() {
        holdsAtFirst("a<5", 0);
        holdsAtFirst("a<4", -1);
        holdsAtFirst("a=4", 0);
        holdsAtFirst("a=3", -1);
        holdsAtFirst("a>3", 0);
        holdsAtFirst("a>4", -1);
        holdsAtFirst("a<99", 0);
        holdsAtFirst("a=4&b=5", 0);
        holdsAtFirst("a=4&b=4", -1);
        holdsAtFirst("b=5&a>9", -1);
        holdsAtFirst("a>3&a<5&b>4", 0);
        holdsAtFirst("a>3&a<5&b>5", -1);
    }

    private static void holds() {
        ChanceRuns x = Due.with("lots 1;var a 30 0;rule 1:a<20->a+1;goal a=0;goal a=20;goal a=21;goal a>4&a<6;");
        due.is("at first", x.holds(0, 60, 9), 0);
        due.is("at first, n 0", x.holds(0, 0, 9), 0);
        due.is("at 20", x.holds(1, 60, 9), 20);
        due.is("at 20 of 20", x.holds(1, 20, 9), 20);
        due.is("at 20 of 19", x.holds(1, 19, 9), -1);
        due.is("never", x.holds(2, 60, 9), -1);
        due.is("passed by", x.holds(3, 60, 9), 5);
    }

    private static void wrongNumbers() {
        ChanceRuns none = new ChanceRuns();
        due.is("holds without a model", none.holds(0, 0, 0), -2);
        due.is("value without a model", none.value(0, 0, 0), -2);
        due.is("goes without a model", none.goes(0, 1), -3);
        due.is("goes k 0 without a model", none.goes(0, 0), -2);
        due.is("goes i without a model", none.goes(-1, 1), -2);
        ChanceRuns x = Due.with("lots 2;var a 3 0;rule 1:->a+1;goal a=3;goal a=2;");
        int[] runs = {-1, 1000000, Integer.MIN_VALUE, Integer.MAX_VALUE};
        int[] lengths = {-1, 61, Integer.MIN_VALUE, Integer.MAX_VALUE};
        int[] things = {-1, 2, 4, 31, 32, Integer.MIN_VALUE, Integer.MAX_VALUE};
        for (int i : runs) {
            due.is("holds run " + i, x.holds(0, 1, i), -2);
            due.is("value run " + i, x.value(i, 1, 0), -2);
            due.is("goes run " + i, x.goes(i, 1), -2);
        }
        for (int n : lengths) {
            due.is("holds length " + n, x.holds(0, n, 0), -2);
            due.is("value length " + n, x.value(0, n, 0), -2);
            due.is("goes step " + n, x.goes(0, n), -2);
        }
        for (int t : things) {
            due.is("holds goal " + t, x.holds(t, 1, 0), -2);
            due.is("value var " + t, x.value(0, 1, t), -2);
        }
        due.is("value var 1", x.value(0, 1, 1), -2);
        due.is("goes step 0", x.goes(0, 0), -2);
        due.is("the greatest of all", x.holds(1, 60, 999999) >= 2 ? 1 : 0, 1);
    }
}
