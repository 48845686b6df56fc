import java.util.Random;

/** Long rows of calls with right, nearly right and wrong numbers, each answer against Oracle's. */
public final class OracleTest {
    private static final int ROWS = 260, CALLS = 511;
    private static final String[] NAMES = {"a", "b", "x", "aa", "var", "goal", "rule", "lots", "abcdef", "z"};
    private static final String[] PIECES = {";", ":", "&", ",", "<", ">", "=", "+", "-", "->", " ", "\n", "\t", "a", "b", "q",
        "0", "1", "31", "30", "100", "abcdefg", "var", "rule", "goal", "lots", "A", "\u00e1", "var a 1 0;", "goal a=1;", "rule 1:->a+1;"};

    private final Due due = new Due("OracleTest");
    private final Random random;
    private final ChanceRuns x = new ChanceRuns();
    private final Oracle o = new Oracle();
    private final int row;
    private int calls;

    private OracleTest(int row) {
        this.row = row;
        this.random = new Random(row);
    }

    public static void main(String[] args) {
        Due all = new Due("OracleTest");
        long answers = 0;
        for (int row = 0; row < ROWS; row++) {
            OracleTest test = new OracleTest(row);
            test.run();
            answers += test.calls;
            all.is("row " + row, test.wrong ? 1 : 0, 0);
        }
        System.out.println("OracleTest: " + answers + " answers in all");
        all.end();
    }

    private boolean wrong;

    private void is(String call, long got, long want) {
        calls++;
        wrong |= got != want;
        due.is("row " + row + " call " + calls + " " + call, got, want);
    }

    private int below(int n) {
        return random.nextInt(n);
    }

    /** Mostly from least to most, the edges more often, now and then beyond. */
    private int number(int least, int most) {
        switch (below(48)) {
            case 0: return least - 1;
            case 1: return most + 1;
            case 2: return random.nextBoolean() ? Integer.MIN_VALUE : Integer.MAX_VALUE;
            case 3: case 4: return least;
            case 5: case 6: return most;
            default: return least + below(most - least + 1);
        }
    }

    private void run() {
        while (calls < CALLS) {
            int kind = below(56);
            if (kind == 0 || calls == 0 && row % 8 != 0) {
                feedText(text());
            } else if (kind < 14) {
                askModelAndRuns();
            } else if (kind < 28) {
                askExact();
            } else if (kind < 40) {
                askCounts();
            } else {
                askHowSure();
            }
        }
    }

    private void feedText(String text) {
        byte[] bytes = Due.bytesOf(text);
        for (int at = 0; at < bytes.length;) {
            int n = Math.min(8 - (below(20) == 0 ? below(8) : 0), bytes.length - at);
            long w = random.nextLong();
            for (int k = 0; k < n; k++) {
                w = w << 8 | bytes[at + k] & 255;
            }
            is("feed(" + w + ", " + n + ")", x.feed(w, n), o.feed(w, n));
            at += n;
        }
        is("model() of '" + text + "'", x.model(), o.model());
        is("fault()", x.fault(), o.fault());
        for (int what = 0; what < 4; what++) {
            is("count", x.count(what), o.count(what));
        }
    }

    private boolean noisy;

    /** A slip, in noisy texts alone: others are to be without FAULT. */
    private boolean slips(int outOf) {
        return noisy && below(outOf) == 0;
    }

    private String text() {
        noisy = below(3) == 0;
        String text = goodText();
        for (int k = slips(2) ? 1 + below(2) : 0; k > 0; k--) {
            int at = below(text.length() + 1);
            int to = Math.min(text.length(), at + below(3));
            text = text.substring(0, at) + (below(4) == 0 ? "" : PIECES[below(PIECES.length)]) + text.substring(to);
        }
        return text;
    }

    private String goodText() {
        StringBuilder s = new StringBuilder();
        int w = 1 + below(below(3) == 0 ? 20 : 6);
        int vars = slips(20) ? 5 * below(2) : 1 + below(4);
        s.append("lots ").append(slips(30) ? below(40) : w).append(';');
        int shift = below(NAMES.length);
        for (int v = 0; v < vars; v++) {
            int most = slips(20) ? below(35) : below(new int[] {0, 31, 31, 10, 5, 3}[vars]);
            s.append("var ").append(NAMES[(shift + v) % NAMES.length]).append(' ').append(most).append(blank())
                .append(' ').append(slips(15) ? below(40) : below(most + 1)).append(blank()).append(';');
        }
        int rules = slips(15) ? 13 : below(8) == 0 ? 10 + below(3) : below(6);
        for (int r = 0; r < rules; r++) {
            s.append("rule ").append(slips(30) ? below(30) : 1 + below(below(3) == 0 ? w : (w + 2) / 3)).append(':').append(blank());
            s.append(terms(below(3), shift, vars, "<=>", "&")).append("->").append(blank());
            s.append(terms(1 + below(3), shift, vars, "=+-++--", ",")).append(';');
        }
        int goals = slips(15) ? below(2) * 5 : 1 + below(4);
        for (int g = 0; g < goals; g++) {
            s.append("goal ").append(terms(1 + below(2), shift, vars, "<=>", "&")).append(blank()).append(';');
        }
        return s.toString();
    }

    private String blank() {
        return below(8) == 0 ? " " : below(20) == 0 ? "\n" : "";
    }

    private String terms(int size, int shift, int vars, String signs, String between) {
        StringBuilder s = new StringBuilder();
        int terms = slips(20) ? 4 : size;
        for (int k = 0; k < terms; k++) {
            int var = slips(40) ? vars : below(Math.max(1, vars));
            s.append(k == 0 ? "" : between).append(NAMES[(shift + var) % NAMES.length]);
            s.append(signs.charAt(below(signs.length()))).append(below(20) == 0 ? below(100) : below(5)).append(blank());
        }
        return s.toString();
    }

    private int goal() {
        return below(16) == 0 ? number(0, 4) : below(Math.max(1, o.count(3)));
    }

    private int var() {
        return below(16) == 0 ? number(0, 4) : below(Math.max(1, o.count(1)));
    }

    private int run(int most) {
        return below(3) == 0 ? number(0, most) : below(20);
    }

    private void askModelAndRuns() {
        int goal = goal();
        int n = number(0, 60);
        int i = run(999999);
        int var = var();
        switch (below(8)) {
            case 0: is("count(" + var + ")", x.count(var), o.count(var)); break;
            case 1: is("fault()", x.fault(), o.fault()); break;
            case 2: case 3: is("holds(" + goal + ", " + n + ", " + i + ")", x.holds(goal, n, i), o.holds(goal, n, i)); break;
            case 4: case 5: is("value(" + i + ", " + n + ", " + var + ")", x.value(i, n, var), o.value(i, n, var)); break;
            default: is("goes(" + i + ", " + n + ")", x.goes(i, n), o.goes(i, n));
        }
    }

    private void askExact() {
        int n = below(6) == 0 ? number(0, 60) : below(14);
        int goal = goal();
        int var = var();
        switch (below(8)) {
            case 0: is("reached()", x.reached(), o.reached()); break;
            case 1: case 2: case 3: is("sum(" + var + ", " + n + ")", x.sum(var, n), o.sum(var, n)); break;
            default: is("exact(" + goal + ", " + n + ")", x.exact(goal, n), o.exact(goal, n));
        }
    }

    private void askCounts() {
        int goal = goal();
        int other = goal();
        int n = below(3) == 0 ? number(0, 60) : 20;
        int b = below(4) == 0 ? number(0, 9999) : below(5);
        int what = number(0, 4);
        switch (below(8)) {
            case 0: case 1: case 2: case 3:
                is("block(" + goal + ", " + n + ", " + b + ")", x.block(goal, n, b), o.block(goal, n, b));
                break;
            case 4: case 5:
                for (int k = 0; k < 5; k++) {
                    is("told(" + k + ")", x.told(k), o.told(k));
                }
                is("told(" + what + ")", x.told(what), o.told(what));
                break;
            case 6:
                int m = below(5) == 0 ? number(0, 500) : below(40);
                what = number(0, 3);
                is("both(" + goal + ", " + other + ", " + n + ", " + m + ", " + what + ")",
                    x.both(goal, other, n, m, what), o.both(goal, other, n, m, what));
                break;
            default:
                long z = below(3) == 0 ? below(3) - 1 : random.nextLong();
                if (below(3) == 0) {
                    is("seed(" + z + ")", x.seed(z), o.seed(z));
                }
        }
    }

    private void askHowSure() {
        int m = number(1, 14);
        int a = below(3) == 0 ? number(0, 1000) : below(200);
        int goal = goal();
        int n = number(0, 60);
        int var = var();
        int what = number(0, 2);
        switch (below(8)) {
            case 0: case 1:
                int h = number(0, Math.max(0, Math.min(14, m)));
                is("ends(" + h + ", " + m + ", " + a + ", " + what + ")", x.ends(h, m, a, what), o.ends(h, m, a, what));
                break;
            case 2:
                int t = number(0, 10);
                is("misses(" + m + ", " + t + ", " + a + ")", x.misses(m, t, a), o.misses(m, t, a));
                break;
            case 3: case 4:
                int p = number(1, 8);
                int q = below(20) == 0 ? number(1, 9) : p < 1 || p > 8 ? 9 : number(p + 1, 9);
                int bound = number(2, 20);
                is("test(" + goal + ", " + n + ", " + p + ", " + q + ", " + bound + ", " + what + ")",
                    x.test(goal, n, p, q, bound, what), o.test(goal, n, p, q, bound, what));
                break;
            case 5: case 6:
                int c = number(1, 5);
                int r = number(1, 4);
                int i = run(999999);
                is("split(" + goal + ", " + n + ", " + var + ", " + c + ", " + r + ", " + i + ")",
                    x.split(goal, n, var, c, r, i), o.split(goal, n, var, c, r, i));
                break;
            default:
                is("moves(" + var + ")", x.moves(var), o.moves(var));
        }
    }
}
