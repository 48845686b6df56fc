import java.math.BigInteger;
import java.util.ArrayDeque;
import java.util.ArrayList;
import java.util.Arrays;
import java.util.HashMap;
import java.util.HashSet;
import java.util.List;
import java.util.Map;
import java.util.Set;
import java.util.regex.Matcher;
import java.util.regex.Pattern;

/** The document once more, as plainly as the Java library allows and without regard to speed. */
final class Oracle {
    static final int NONE = -1, BAD = -2, STATE = -3, FULL = -4;

    private static final class Fault extends RuntimeException {
        private static final long serialVersionUID = 1;
        final int place;
        final int number;

        Fault(int place, int number) {
            this.place = place;
            this.number = number;
        }
    }

    record Token(String text, int place) {
        boolean isName() {
            return text.matches("[a-z]{1,6}");
        }

        boolean isNumber() {
            return text.matches("[0-9]{1,2}");
        }
    }

    record Term(int var, String sign, int number) { }

    record Rule(int weight, List<Term> conds, List<Term> effects) { }

    static final class Model {
        int w;
        final List<String> names = new ArrayList<>();
        final List<Integer> most = new ArrayList<>();
        final List<Integer> first = new ArrayList<>();
        final List<Rule> rules = new ArrayList<>();
        final List<List<Term>> goals = new ArrayList<>();

        int states() {
            int product = 1;
            for (int m : most) {
                product *= m + 1;
            }
            return product;
        }
    }

    private String tape = "";
    private Model model;
    private int latest;
    private long seed;
    private String claim = "";
    private int claimGoal = NONE;
    private int claimLength = NONE;
    private final Set<Integer> blocks = new HashSet<>();

    int feed(long w, int n) {
        if (n < 1 || n > 8) {
            return BAD;
        }
        if (tape.length() + n > 800) {
            return FULL;
        }
        for (int k = n - 1; k >= 0; k--) {
            tape += (char) (w >> 8 * k & 255);
        }
        return tape.length();
    }

    int model() {
        String text = tape;
        tape = "";
        try {
            model = new Parser(text).parse();
            forget();
            return model.states();
        } catch (Fault f) {
            latest = f.number;
            return -1000 - f.place;
        }
    }

    private void forget() {
        claim = "";
        claimGoal = NONE;
        claimLength = NONE;
        blocks.clear();
    }

    private static final class Parser {
        private final List<Token> tokens = new ArrayList<>();
        private int at;
        private final Model m = new Model();

        Parser(String text) {
            Matcher matcher = Pattern.compile("[ \n]+|[a-z]+|[0-9]+|->|(?s:.)").matcher(text);
            while (matcher.find()) {
                if (!matcher.group().matches("[ \n]+")) {
                    tokens.add(new Token(matcher.group(), matcher.start()));
                }
            }
            tokens.add(new Token("", text.length()));
        }

        Token peek() {
            return tokens.get(at);
        }

        Token take(boolean fits) {
            Token t = peek();
            check(fits, t, 1);
            at++;
            return t;
        }

        void word(String text) {
            take(peek().text.equals(text));
        }

        boolean skip(String text) {
            boolean there = peek().text.equals(text);
            if (there) {
                at++;
            }
            return there;
        }

        static void check(boolean fine, Token t, int number) {
            if (!fine) {
                throw new Fault(t.place, number);
            }
        }

        int number(int least, int most) {
            Token t = take(peek().isNumber());
            int n = Integer.parseInt(t.text);
            check(n >= least && n <= most, t, 3);
            return n;
        }

        Model parse() {
            word("lots");
            m.w = number(1, 20);
            word(";");
            while (peek().text.equals("var")) {
                check(m.names.size() < 4, peek(), 4);
                at++;
                var();
            }
            while (peek().text.equals("rule")) {
                check(m.rules.size() < 12, peek(), 4);
                at++;
                rule();
            }
            while (peek().text.equals("goal")) {
                check(m.goals.size() < 4, peek(), 4);
                at++;
                m.goals.add(terms("&", "<=>"));
                word(";");
            }
            check(peek().text.isEmpty(), peek(), 1);
            check(!m.names.isEmpty() && !m.goals.isEmpty(), peek(), 4);
            return m;
        }

        void var() {
            Token name = take(peek().isName());
            check(!m.names.contains(name.text), name, 2);
            Token greatest = peek();
            int most = number(0, 30);
            check(m.states() * (most + 1) <= 1000, greatest, 4);
            int first = number(0, most);
            word(";");
            m.names.add(name.text);
            m.most.add(most);
            m.first.add(first);
        }

        void rule() {
            int weight = number(1, m.w);
            word(":");
            List<Term> conds = peek().text.equals("->") ? List.of() : terms("&", "<=>");
            word("->");
            List<Term> effects = terms(",", "=+-");
            word(";");
            m.rules.add(new Rule(weight, conds, effects));
        }

        List<Term> terms(String between, String signs) {
            List<Term> list = new ArrayList<>();
            do {
                Token name = take(peek().isName());
                check(m.names.contains(name.text), name, 2);
                check(list.size() < 3, name, 4);
                Token sign = take(peek().text.length() == 1 && signs.contains(peek().text));
                list.add(new Term(m.names.indexOf(name.text), sign.text, number(0, 99)));
            } while (skip(between));
            return list;
        }
    }

    int fault() {
        return latest;
    }

    int seed(long z) {
        seed = z;
        forget();
        return 1;
    }

    int count(int what) {
        if (what < 0 || what > 3) {
            return BAD;
        }
        if (model == null) {
            return STATE;
        }
        return List.of(model.w, model.names.size(), model.rules.size(), model.goals.size()).get(what);
    }

    private boolean noGoal(int g) {
        return model == null || g < 0 || g >= model.goals.size();
    }

    private boolean noVar(int v) {
        return model == null || v < 0 || v >= model.names.size();
    }

    private static boolean out(int number, int least, int most) {
        return number < least || number > most;
    }

    private static boolean all(List<Term> conds, List<Integer> values) {
        for (Term c : conds) {
            int v = values.get(c.var);
            boolean holds = c.sign.equals("<") ? v < c.number : c.sign.equals(">") ? v > c.number : v == c.number;
            if (!holds) {
                return false;
            }
        }
        return true;
    }

    private int ruleFor(List<Integer> values, int d) {
        int from = 0;
        for (int r = 0; r < model.rules.size(); r++) {
            if (all(model.rules.get(r).conds, values)) {
                from += model.rules.get(r).weight;
                if (d < from) {
                    return r;
                }
            }
        }
        return NONE;
    }

    private List<Integer> behind(List<Integer> values, int d) {
        int rule = ruleFor(values, d);
        if (rule == NONE) {
            return values;
        }
        List<Integer> next = new ArrayList<>(values);
        for (Term e : model.rules.get(rule).effects) {
            int v = next.get(e.var);
            v = e.sign.equals("=") ? e.number : e.sign.equals("+") ? v + e.number : v - e.number;
            next.set(e.var, Math.max(0, Math.min(model.most.get(e.var), v)));
        }
        return next;
    }

    /** The numbers d of a RUN, by big numbers. */
    private final class Lots {
        private final BigInteger size = BigInteger.ONE.shiftLeft(64);
        private BigInteger lot;

        Lots(int i) {
            lot = BigInteger.valueOf(i).multiply(new BigInteger("-7046029254386353131"))
                .add(BigInteger.valueOf(seed)).mod(size);
        }

        int next() {
            lot = lot.multiply(new BigInteger("6364136223846793005")).add(new BigInteger("1442695040888963407")).mod(size);
            return lot.shiftRight(33).mod(BigInteger.valueOf(model.w)).intValue();
        }
    }

    private int holding(int goal, int n, int i) {
        Lots lots = new Lots(i);
        List<Integer> values = model.first;
        for (int k = 0; k <= n; k++) {
            if (all(model.goals.get(goal), values)) {
                return k;
            }
            values = behind(values, lots.next());
        }
        return NONE;
    }

    int holds(int goal, int n, int i) {
        return noGoal(goal) || out(n, 0, 60) || out(i, 0, 999999) ? BAD : holding(goal, n, i);
    }

    int value(int i, int n, int var) {
        if (noVar(var) || out(n, 0, 60) || out(i, 0, 999999)) {
            return BAD;
        }
        Lots lots = new Lots(i);
        List<Integer> values = model.first;
        for (int k = 0; k < n; k++) {
            values = behind(values, lots.next());
        }
        return values.get(var);
    }

    int goes(int i, int k) {
        if (out(k, 1, 60) || out(i, 0, 999999)) {
            return BAD;
        }
        if (model == null) {
            return STATE;
        }
        Lots lots = new Lots(i);
        List<Integer> values = model.first;
        for (int step = 1; step < k; step++) {
            values = behind(values, lots.next());
        }
        return ruleFor(values, lots.next());
    }

    private boolean tooMany(int n, int tens) {
        return BigInteger.valueOf(model.w).pow(n).compareTo(BigInteger.TEN.pow(tens)) > 0;
    }

    long exact(int goal, int n) {
        if (noGoal(goal) || out(n, 0, 60)) {
            return BAD;
        }
        return tooMany(n, 18) ? FULL : holdingRows(goal, n, model.first, new HashMap<>()).longValueExact();
    }

    private BigInteger holdingRows(int goal, int n, List<Integer> values, Map<String, BigInteger> known) {
        if (all(model.goals.get(goal), values)) {
            return BigInteger.valueOf(model.w).pow(n);
        }
        String key = n + " " + values;
        if (n > 0 && !known.containsKey(key)) {
            BigInteger rows = BigInteger.ZERO;
            for (int d = 0; d < model.w; d++) {
                rows = rows.add(holdingRows(goal, n - 1, behind(values, d), known));
            }
            known.put(key, rows);
        }
        return n > 0 ? known.get(key) : BigInteger.ZERO;
    }

    long sum(int var, int n) {
        if (noVar(var) || out(n, 0, 60)) {
            return BAD;
        }
        return tooMany(n, 17) ? FULL : total(var, n, model.first, new HashMap<>()).longValueExact();
    }

    private BigInteger total(int var, int n, List<Integer> values, Map<String, BigInteger> known) {
        if (n == 0) {
            return BigInteger.valueOf(values.get(var));
        }
        String key = n + " " + values;
        if (!known.containsKey(key)) {
            BigInteger rows = BigInteger.ZERO;
            for (int d = 0; d < model.w; d++) {
                rows = rows.add(total(var, n - 1, behind(values, d), known));
            }
            known.put(key, rows);
        }
        return known.get(key);
    }

    int reached() {
        if (model == null) {
            return STATE;
        }
        Set<List<Integer>> seen = new HashSet<>(List.of(model.first));
        ArrayDeque<List<Integer>> waiting = new ArrayDeque<>(seen);
        while (!waiting.isEmpty()) {
            List<Integer> values = waiting.pop();
            for (int d = 0; d < model.w; d++) {
                List<Integer> next = behind(values, d);
                if (seen.add(next)) {
                    waiting.add(next);
                }
            }
        }
        return seen.size();
    }

    int block(int goal, int n, int b) {
        if (noGoal(goal) || out(n, 0, 60) || out(b, 0, 9999)) {
            return BAD;
        }
        if (!claim.equals(goal + " " + n)) {
            forget();
            claim = goal + " " + n;
            claimGoal = goal;
            claimLength = n;
        }
        blocks.add(b);
        return blocks.size();
    }

    int told(int what) {
        int held = 0;
        int steps = 0;
        for (int b : what == 1 || what == 2 ? blocks : Set.<Integer>of()) {
            for (int i = 10 * b; i < 10 * b + 10; i++) {
                int step = holding(claimGoal, claimLength, i);
                held += step == NONE ? 0 : 1;
                steps += step == NONE ? 0 : step;
            }
        }
        return out(what, 0, 4) ? BAD : Arrays.asList(10 * blocks.size(), held, steps, claimGoal, claimLength).get(what);
    }

    int both(int a, int b, int n, int m, int what) {
        if (noGoal(a) || noGoal(b) || out(n, 0, 60) || out(m, 0, 500) || out(what, 0, 3)) {
            return BAD;
        }
        int[] found = new int[4];
        for (int i = 0; i < m; i++) {
            boolean first = holding(a, n, i) != NONE;
            boolean second = holding(b, n, i) != NONE;
            found[first && second ? 0 : first ? 1 : second ? 2 : 3]++;
        }
        return found[what];
    }

    private static BigInteger cases(int h, int m, int t) {
        BigInteger ways = BigInteger.ONE;
        for (int k = 0; k < h; k++) {
            ways = ways.multiply(BigInteger.valueOf(m - k)).divide(BigInteger.valueOf(k + 1));
        }
        return ways.multiply(BigInteger.valueOf(t).pow(h)).multiply(BigInteger.valueOf(10 - t).pow(m - h));
    }

    private static boolean within(int from, int to, int m, int t, int a) {
        BigInteger cases = BigInteger.ZERO;
        for (int h = from; h <= to; h++) {
            cases = cases.add(cases(h, m, t));
        }
        return cases.multiply(BigInteger.valueOf(1000))
            .compareTo(BigInteger.valueOf(a).multiply(BigInteger.TEN.pow(m))) <= 0;
    }

    private static int low(int h, int m, int a) {
        int low = 0;
        for (int t = 0; h > 0 && t <= 10; t++) {
            low = within(h, m, m, t, a) ? t : low;
        }
        return low;
    }

    private static int high(int h, int m, int a) {
        int high = 10;
        for (int t = 10; h < m && t >= 0; t--) {
            high = within(0, h, m, t, a) ? t : high;
        }
        return high;
    }

    int ends(int h, int m, int a, int what) {
        if (out(m, 1, 14) || out(h, 0, m) || out(a, 0, 1000) || out(what, 0, 1)) {
            return BAD;
        }
        return what == 0 ? low(h, m, a) : high(h, m, a);
    }

    long misses(int m, int t, int a) {
        if (out(m, 1, 14) || out(t, 0, 10) || out(a, 0, 1000)) {
            return BAD;
        }
        BigInteger missed = BigInteger.ZERO;
        for (int h = 0; h <= m; h++) {
            if (out(t, low(h, m, a), high(h, m, a))) {
                missed = missed.add(cases(h, m, t));
            }
        }
        return missed.longValueExact();
    }

    int test(int goal, int n, int p, int q, int b, int what) {
        if (noGoal(goal) || out(n, 0, 60) || out(p, 1, 9) || out(q, 1, 9) || p >= q || out(b, 2, 20) || out(what, 0, 2)) {
            return BAD;
        }
        int h = 0;
        for (int m = 1; m <= 16; m++) {
            h += holding(goal, n, m - 1) == NONE ? 0 : 1;
            BigInteger byQ = BigInteger.valueOf(q).pow(h).multiply(BigInteger.valueOf(10 - q).pow(m - h));
            BigInteger byP = BigInteger.valueOf(p).pow(h).multiply(BigInteger.valueOf(10 - p).pow(m - h));
            if (byQ.compareTo(byP.multiply(BigInteger.valueOf(b))) >= 0) {
                return List.of(1, m, h).get(what);
            }
            if (byP.compareTo(byQ.multiply(BigInteger.valueOf(b))) >= 0) {
                return List.of(0, m, h).get(what);
            }
        }
        return List.of(NONE, 16, h).get(what);
    }

    /** A SPLIT by recursion: each copy brings all that comes of it to its end. */
    private final class Splitter {
        private final int goal;
        private final int var;
        private final int c;
        private final int r;
        private final Lots lots;
        private int steps;

        Splitter(int goal, int var, int c, int r, int i) {
            this.goal = goal;
            this.var = var;
            this.c = c;
            this.r = r;
            this.lots = new Lots(i);
        }

        int held(List<Integer> values, int passed, int left) {
            if (passed < c && values.get(var) >= passed + 1) {
                int held = 0;
                for (int copy = 0; copy < r; copy++) {
                    held += held(values, passed + 1, left);
                }
                return held;
            }
            if (all(model.goals.get(goal), values)) {
                return 1;
            }
            if (left == 0) {
                return 0;
            }
            steps++;
            return held(behind(values, lots.next()), passed, left - 1);
        }
    }

    int split(int goal, int n, int var, int c, int r, int i) {
        if (noGoal(goal) || out(n, 0, 60) || noVar(var) || out(c, 1, 5) || out(r, 1, 4) || out(i, 0, 999999)) {
            return BAD;
        }
        Splitter splitter = new Splitter(goal, var, c, r, i);
        int held = splitter.held(model.first, 0, n);
        return splitter.steps > 20000 ? FULL : held;
    }

    int moves(int var) {
        if (noVar(var)) {
            return BAD;
        }
        int moving = 0;
        for (Rule rule : model.rules) {
            moving += rule.effects.stream().anyMatch(e -> e.var == var) ? 1 : 0;
        }
        return moving;
    }
}
