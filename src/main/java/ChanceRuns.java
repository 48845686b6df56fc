import java.util.Arrays;

/** Chances by runs: small models with lots, run again and again from numbered lots, and counted exactly. */
public final class ChanceRuns {
    public static final int NONE = -1, BAD = -2, STATE = -3, FULL = -4;

    private static final int MOST_STEPS = 60, MOST_RUN = 999999, MOST_BLOCK = 9999, RUNS_IN_BLOCK = 10;
    private static final int MOST_COMPARED = 500, MOST_TESTED = 16, PLACE_OF_FAULTS = -1000;
    private static final long MOST_ROWS = 1000000000000000000L, MOST_ROWS_SUMMED = 100000000000000000L;

    private final Tape tape = new Tape();
    private final Reader reader = new Reader(tape);
    private final Table table = new Table();
    private final Walk walk = new Walk(table);
    private final Rows rows = new Rows(table);
    private final Counts counts = new Counts();
    private final Odds odds = new Odds();
    private final Split splitter = new Split(walk);
    private Model present = table.model;
    private long seedNow;
    private int latestFault;

    public ChanceRuns() {
    }

    // ---- models

    public int feed(long w, int n) {
        if (n < 1 || n > 8) {
            return BAD;
        }
        return tape.append(w, n) ? tape.length : FULL;
    }

    public int model() {
        boolean fine = reader.reads();
        tape.clear();
        if (!fine) {
            latestFault = reader.fault;
            return PLACE_OF_FAULTS - reader.place;
        }
        present = reader.exchange(present);
        table.take(present);
        counts.clear();
        return present.states;
    }

    public int fault() {
        return latestFault;
    }

    public int seed(long z) {
        seedNow = z;
        counts.clear();
        return 1;
    }

    public int count(int what) {
        if (what < 0 || what > 3) {
            return BAD;
        }
        if (hasNoModel()) {
            return STATE;
        }
        switch (what) {
            case 0: return present.lots;
            case 1: return present.varCount;
            case 2: return present.ruleCount;
            default: return present.goalCount;
        }
    }

    // ---- runs

    public int holds(int goal, int n, int i) {
        if (!isGoal(goal) || !isLength(n) || !isRun(i)) {
            return BAD;
        }
        return stepOfHolding(goal, n, i);
    }

    public int value(int i, int n, int var) {
        if (!isRun(i) || !isLength(n) || !isVar(var)) {
            return BAD;
        }
        walk.begin(seedNow, i);
        for (int k = 0; k < n; k++) {
            walk.step();
        }
        return walk.valueOf(var);
    }

    public int goes(int i, int k) {
        if (!isRun(i) || k < 1 || k > MOST_STEPS) {
            return BAD;
        }
        if (hasNoModel()) {
            return STATE;
        }
        walk.begin(seedNow, i);
        int rule = NONE;
        for (int step = 0; step < k; step++) {
            rule = walk.step();
        }
        return rule;
    }

    // ---- exact

    public long exact(int goal, int n) {
        if (!isGoal(goal) || !isLength(n)) {
            return BAD;
        }
        return powerIsAbove(present.lots, n, MOST_ROWS) ? FULL : rows.holding(goal, n);
    }

    public long sum(int var, int n) {
        if (!isVar(var) || !isLength(n)) {
            return BAD;
        }
        return powerIsAbove(present.lots, n, MOST_ROWS_SUMMED) ? FULL : rows.total(var, n);
    }

    public int reached() {
        return hasNoModel() ? STATE : rows.statesComeTo();
    }

    // ---- counts

    public int block(int goal, int n, int b) {
        if (!isGoal(goal) || !isLength(n) || b < 0 || b > MOST_BLOCK) {
            return BAD;
        }
        counts.turnTo(goal, n);
        if (counts.takes(b)) {
            for (int i = 0; i < RUNS_IN_BLOCK; i++) {
                counts.note(stepOfHolding(goal, n, b * RUNS_IN_BLOCK + i));
            }
        }
        return counts.blocks;
    }

    public int told(int what) {
        switch (what) {
            case 0: return counts.blocks * RUNS_IN_BLOCK;
            case 1: return counts.held;
            case 2: return counts.steps;
            case 3: return counts.goal;
            case 4: return counts.length;
            default: return BAD;
        }
    }

    public int both(int a, int b, int n, int m, int what) {
        if (!isGoal(a) || !isGoal(b) || !isLength(n) || m < 0 || m > MOST_COMPARED || what < 0 || what > 3) {
            return BAD;
        }
        int found = 0;
        for (int i = 0; i < m; i++) {
            if (kindOfPair(a, b, n, i) == what) {
                found++;
            }
        }
        return found;
    }

    // ---- how sure

    public int ends(int h, int m, int a, int what) {
        if (!Odds.isSize(m) || h < 0 || h > m || !Odds.isChance(a) || what < 0 || what > 1) {
            return BAD;
        }
        return what == 0 ? odds.low(h, m, a) : odds.high(h, m, a);
    }

    public long misses(int m, int t, int a) {
        if (!Odds.isSize(m) || t < 0 || t > Odds.TENTHS || !Odds.isChance(a)) {
            return BAD;
        }
        return odds.missed(m, t, a);
    }

    public int test(int goal, int n, int p, int q, int b, int what) {
        if (!isGoal(goal) || !isLength(n) || p < 1 || q > 9 || p >= q || b < 2 || b > 20 || what < 0 || what > 2) {
            return BAD;
        }
        int runs = 0;
        int held = 0;
        int verdict = NONE;
        while (runs < MOST_TESTED && verdict == NONE) {
            if (stepOfHolding(goal, n, runs) != NONE) {
                held++;
            }
            runs++;
            verdict = odds.verdict(held, runs, p, q, b);
        }
        switch (what) {
            case 0: return verdict;
            case 1: return runs;
            default: return held;
        }
    }

    public int split(int goal, int n, int var, int c, int r, int i) {
        if (!isGoal(goal) || !isLength(n) || !isVar(var) || !isRun(i)) {
            return BAD;
        }
        if (c < 1 || c > Split.MOST_LEVELS || r < 1 || r > Split.MOST_COPIES) {
            return BAD;
        }
        walk.begin(seedNow, i);
        return splitter.heldBy(goal, n, var, c, r);
    }

    public int moves(int var) {
        return isVar(var) ? present.rulesMoving(var) : BAD;
    }

    private boolean hasNoModel() {
        return present.lots == 0;
    }

    private boolean isGoal(int goal) {
        return goal >= 0 && goal < present.goalCount;
    }

    private boolean isVar(int var) {
        return var >= 0 && var < present.varCount;
    }

    private static boolean isLength(int n) {
        return n >= 0 && n <= MOST_STEPS;
    }

    private static boolean isRun(int i) {
        return i >= 0 && i <= MOST_RUN;
    }

    private int stepOfHolding(int goal, int n, int i) {
        walk.begin(seedNow, i);
        for (int k = 0; k < n; k++) {
            if (walk.isAt(goal)) {
                return k;
            }
            walk.step();
        }
        return walk.isAt(goal) ? n : NONE;
    }

    private int kindOfPair(int a, int b, int n, int i) {
        walk.begin(seedNow, i);
        boolean first = walk.isAt(a);
        boolean second = walk.isAt(b);
        for (int k = 0; k < n && !(first && second); k++) {
            walk.step();
            first = first || walk.isAt(a);
            second = second || walk.isAt(b);
        }
        if (first) {
            return second ? 0 : 1;
        }
        return second ? 2 : 3;
    }

    private static boolean powerIsAbove(int base, int n, long bound) {
        if (base < 1) {
            return false;
        }
        long most = bound / base;
        long power = 1;
        for (int k = 0; k < n; k++) {
            if (power > most) {
                return true;
            }
            power *= base;
        }
        return false;
    }

    /** The bytes that were fed, and the TOKEN that stands at present. */
    private static final class Tape {
        static final int END = 0, NAME = 1, NUMBER = 2, SIGN = 3, NO_TOKEN = 4;
        // No byte that is a SIGN alone, so that it can stand in for the two of "->".
        static final char ARROW = 'A';
        private static final int SIZE = 800, MOST_LETTERS = 6, MOST_FIGURES = 2;
        private static final String SIGNS = ";:&,<>=+-";

        private final byte[] bytes = new byte[SIZE];
        int length;
        int from;
        private int to;
        int kind;
        /** The letters as one number: NAMES are short enough that no two have the same one. */
        int name;
        int number;
        char sign;

        boolean append(long w, int n) {
            if (n > SIZE - length) {
                return false;
            }
            for (int shift = 8 * (n - 1); shift >= 0; shift -= 8) {
                bytes[length] = (byte) (w >>> shift);
                length++;
            }
            return true;
        }

        void clear() {
            length = 0;
        }

        void rewind() {
            to = 0;
            next();
        }

        void next() {
            from = to;
            while (from < length && from < SIZE && (bytes[from] == ' ' || bytes[from] == '\n')) {
                from++;
            }
            to = from;
            if (from >= length || from >= SIZE) {
                kind = END;
                return;
            }
            byte c = bytes[from];
            if (c >= 'a' && c <= 'z') {
                // An 'a' counts 1, not 0, so that 'a' and 'aa' are not the same.
                name = readRun('a', 'z', 'a' - 1, 27);
                kind = to - from > MOST_LETTERS ? NO_TOKEN : NAME;
            } else if (c >= '0' && c <= '9') {
                number = readRun('0', '9', '0', 10);
                kind = to - from > MOST_FIGURES ? NO_TOKEN : NUMBER;
            } else {
                to = from + 1;
                sign = (char) (c & 255);
                kind = SIGNS.indexOf(sign) < 0 ? NO_TOKEN : SIGN;
                joinArrow();
            }
        }

        private int readRun(char first, char last, int zero, int base) {
            int read = 0;
            while (to < length && to < SIZE && bytes[to] >= first && bytes[to] <= last) {
                read = read * base + bytes[to] - zero;
                to++;
            }
            return read;
        }

        private void joinArrow() {
            if (sign == '-' && to < length && to < SIZE && bytes[to] == '>') {
                sign = ARROW;
                to++;
            }
        }

        boolean isSign(char wanted) {
            return kind == SIGN && sign == wanted;
        }

        boolean isWord(String word) {
            int letters = word.length();
            if (kind != NAME || to - from != letters || to > SIZE) {
                return false;
            }
            for (int i = 0; i < letters; i++) {
                if (bytes[from + i] != word.charAt(i)) {
                    return false;
                }
            }
            return true;
        }
    }

    /** Reads the tape into a MODEL; each part answers whether it is without FAULT, and stops at the first one. */
    private static final class Reader {
        private static final int MOST_LOTS = 20, MOST_VALUE = 30, MOST_NUMBER = 99;
        // A SIGN's place, less 1, is how Terms know it.
        private static final String COND_SIGNS = "<=>", EFFECT_SIGNS = "-=+";
        private static final int STRANGE = 1, WRONG_NAME = 2, WRONG_NUMBER = 3, TOO_MANY = 4;

        private final Tape tape;
        // A spare one, so that a FAULT leaves THE MODEL as it is.
        private Model model = new Model();
        int fault;
        int place;

        Reader(Tape tape) {
            this.tape = tape;
        }

        boolean reads() {
            model.clear();
            tape.rewind();
            boolean fine = readLots();
            for (int i = 0; fine && i <= Model.MOST_VARS && tape.isWord("var"); i++) {
                fine = i < Model.MOST_VARS ? readVar() : fails(TOO_MANY);
            }
            for (int i = 0; fine && i <= Model.MOST_RULES && tape.isWord("rule"); i++) {
                fine = i < Model.MOST_RULES ? readRule(model.rules[i]) : fails(TOO_MANY);
                model.ruleCount = i + 1;
            }
            for (int i = 0; fine && i <= Model.MOST_GOALS && tape.isWord("goal"); i++) {
                fine = i < Model.MOST_GOALS ? readGoal(model.goals[i]) : fails(TOO_MANY);
                model.goalCount = i + 1;
            }
            return fine && isAtEnd();
        }

        /** The MODEL that was read, for one that is needed no more. */
        Model exchange(Model old) {
            Model read = model;
            model = old;
            return read;
        }

        private boolean fails(int number) {
            fault = number;
            place = tape.from;
            return false;
        }

        private boolean readLots() {
            if (!tape.isWord("lots")) {
                return fails(STRANGE);
            }
            tape.next();
            if (!isNumber(1, MOST_LOTS)) {
                return false;
            }
            model.lots = tape.number;
            tape.next();
            return passes(';');
        }

        private boolean readVar() {
            tape.next();
            if (!isNewName()) {
                return false;
            }
            int name = tape.name;
            tape.next();
            if (!isNumber(0, MOST_VALUE)) {
                return false;
            }
            int most = tape.number;
            if (model.states * (most + 1) > Model.MOST_STATES) {
                return fails(TOO_MANY);
            }
            tape.next();
            if (!isNumber(0, most)) {
                return false;
            }
            model.addVar(name, most, tape.number);
            tape.next();
            return passes(';');
        }

        private boolean readRule(Rule rule) {
            rule.clear();
            tape.next();
            if (!isNumber(1, model.lots)) {
                return false;
            }
            rule.weight = tape.number;
            tape.next();
            if (!passes(':')) {
                return false;
            }
            if (!tape.isSign(Tape.ARROW) && !readTerms(rule.conds, COND_SIGNS, '&')) {
                return false;
            }
            return passes(Tape.ARROW) && readTerms(rule.effects, EFFECT_SIGNS, ',') && passes(';');
        }

        private boolean readGoal(Terms goal) {
            goal.clear();
            tape.next();
            return readTerms(goal, COND_SIGNS, '&') && passes(';');
        }

        private boolean isAtEnd() {
            if (tape.kind != Tape.END) {
                return fails(STRANGE);
            }
            // Without a VAR there is no GOAL either: it would have had no NAME to ask for.
            return model.goalCount > 0 || fails(TOO_MANY);
        }

        private boolean readTerms(Terms into, String signs, char between) {
            boolean more = true;
            for (int i = 0; more && i <= Terms.MOST; i++) {
                if (!readTerm(into, signs)) {
                    return false;
                }
                more = tape.isSign(between);
                if (more) {
                    tape.next();
                }
            }
            return true;
        }

        private boolean readTerm(Terms into, String signs) {
            if (tape.kind != Tape.NAME) {
                return fails(STRANGE);
            }
            int var = model.varNamed(tape.name);
            if (var == NONE) {
                return fails(WRONG_NAME);
            }
            if (into.size >= Terms.MOST) {
                return fails(TOO_MANY);
            }
            tape.next();
            if (tape.kind != Tape.SIGN || signs.indexOf(tape.sign) < 0) {
                return fails(STRANGE);
            }
            int sort = signs.indexOf(tape.sign) - 1;
            tape.next();
            if (!isNumber(0, MOST_NUMBER)) {
                return false;
            }
            into.add(var, sort, tape.number);
            tape.next();
            return true;
        }

        private boolean isNewName() {
            if (tape.kind != Tape.NAME) {
                return fails(STRANGE);
            }
            return model.varNamed(tape.name) == NONE || fails(WRONG_NAME);
        }

        private boolean isNumber(int least, int most) {
            if (tape.kind != Tape.NUMBER) {
                return fails(STRANGE);
            }
            return tape.number >= least && tape.number <= most || fails(WRONG_NUMBER);
        }

        private boolean passes(char sign) {
            if (!tape.isSign(sign)) {
                return fails(STRANGE);
            }
            tape.next();
            return true;
        }
    }

    /** Up to three of NAME, SIGN, NUMBER: the CONDS of a RULE or GOAL, or the EFFECTS of a RULE. */
    private static final class Terms {
        static final int MOST = 3;

        int size;
        private final int[] vars = new int[MOST];
        /** Of CONDS -1 less, 0 the same, 1 greater; of EFFECTS -1 less by, 0 becomes, 1 more by. */
        private final int[] sorts = new int[MOST];
        private final int[] numbers = new int[MOST];

        void clear() {
            size = 0;
        }

        void add(int var, int sort, int number) {
            if (size < MOST) {
                vars[size] = var;
                sorts[size] = sort;
                numbers[size] = number;
                size++;
            }
        }

        boolean allHold(int[] values) {
            for (int i = 0; i < size && i < MOST; i++) {
                int var = vars[i];
                if (var < 0 || var >= values.length) {
                    return false;
                }
                int value = values[var];
                int sort = value < numbers[i] ? -1 : value > numbers[i] ? 1 : 0;
                if (sort != sorts[i]) {
                    return false;
                }
            }
            return true;
        }

        void change(int[] values, int[] most) {
            for (int i = 0; i < size && i < MOST; i++) {
                int var = vars[i];
                if (var >= 0 && var < values.length && var < most.length) {
                    int value = sorts[i] == 0 ? numbers[i] : values[var] + sorts[i] * numbers[i];
                    values[var] = Math.max(0, Math.min(most[var], value));
                }
            }
        }

        boolean names(int var) {
            for (int i = 0; i < size && i < MOST; i++) {
                if (vars[i] == var) {
                    return true;
                }
            }
            return false;
        }
    }

    private static final class Rule {
        int weight;
        final Terms conds = new Terms();
        final Terms effects = new Terms();

        void clear() {
            weight = 0;
            conds.clear();
            effects.clear();
        }
    }

    /** What a text tells; it has no LOTS (0) as long as none was read into it. */
    private static final class Model {
        static final int MOST_VARS = 4, MOST_RULES = 12, MOST_GOALS = 4, MOST_STATES = 1000;

        int lots;
        int varCount;
        int ruleCount;
        int goalCount;
        int states = 1;
        final int[] most = new int[MOST_VARS];
        final int[] atFirst = new int[MOST_VARS];
        final Rule[] rules = new Rule[MOST_RULES];
        final Terms[] goals = new Terms[MOST_GOALS];
        private final int[] names = new int[MOST_VARS];

        Model() {
            for (int i = 0; i < MOST_RULES; i++) {
                rules[i] = new Rule();
            }
            for (int i = 0; i < MOST_GOALS; i++) {
                goals[i] = new Terms();
            }
        }

        void clear() {
            lots = 0;
            varCount = 0;
            ruleCount = 0;
            goalCount = 0;
            states = 1;
        }

        void addVar(int name, int greatest, int first) {
            if (varCount < MOST_VARS) {
                names[varCount] = name;
                most[varCount] = greatest;
                atFirst[varCount] = first;
                varCount++;
                states *= greatest + 1;
            }
        }

        int varNamed(int name) {
            for (int v = 0; v < varCount && v < MOST_VARS; v++) {
                if (names[v] == name) {
                    return v;
                }
            }
            return NONE;
        }

        /** States are numbered by their values, the first VAR counting by ones. */
        int stateOf(int[] values) {
            int state = 0;
            for (int v = Math.min(varCount, MOST_VARS) - 1; v >= 0 && v < values.length; v--) {
                state = state * (most[v] + 1) + values[v];
            }
            return state;
        }

        void valuesOf(int state, int[] values) {
            int rest = state;
            for (int v = 0; v < varCount && v < MOST_VARS && v < values.length; v++) {
                int size = most[v] + 1;
                if (size > 0) {
                    values[v] = rest % size;
                    rest /= size;
                }
            }
        }

        int valueIn(int state, int var) {
            int rest = state;
            int value = 0;
            for (int v = 0; v <= var && v < MOST_VARS; v++) {
                int size = most[v] + 1;
                if (size > 0) {
                    value = rest % size;
                    rest /= size;
                }
            }
            return value;
        }

        int rulesMoving(int var) {
            int moving = 0;
            for (int r = 0; r < ruleCount && r < MOST_RULES; r++) {
                if (rules[r].effects.names(var)) {
                    moving++;
                }
            }
            return moving;
        }
    }

    /** For each state and number d what a STEP does; a state's row is made when it is first asked for, and kept. */
    private static final class Table {
        private static final int MOST_CELLS = Model.MOST_STATES * Reader.MOST_LOTS;
        private static final int RULE_BITS = 4, RULE_MASK = 15, NO_RULE = 15;
        private static final int MADE = 1 << Model.MOST_GOALS;

        Model model = new Model();
        // None before the first MODEL: an object that never has one stays small.
        private int[] cells = new int[0];
        /** MADE and a bit for each GOAL that is there; 0 for a state whose row is not made. */
        private final int[] marks = new int[Model.MOST_STATES];
        private final int[] values = new int[Model.MOST_VARS];
        private final int[] changed = new int[Model.MOST_VARS];

        void take(Model taken) {
            model = taken;
            if (cells.length == 0) {
                cells = new int[MOST_CELLS];
            }
            Arrays.fill(marks, 0);
        }

        int firstState() {
            return model.stateOf(model.atFirst);
        }

        /** What stateIn() and ruleIn() tell of. */
        int cell(int state, int d) {
            int place = state * model.lots + d;
            if (isNoState(state) || d < 0 || d >= model.lots || place >= cells.length) {
                return NO_RULE;
            }
            if (marks[state] == 0) {
                makeRow(state);
            }
            return cells[place];
        }

        static int stateIn(int cell) {
            return cell >> RULE_BITS;
        }

        static int ruleIn(int cell) {
            int rule = cell & RULE_MASK;
            return rule == NO_RULE ? NONE : rule;
        }

        boolean hasGoal(int state, int goal) {
            if (isNoState(state)) {
                return false;
            }
            if (marks[state] == 0) {
                makeRow(state);
            }
            return (marks[state] >> goal & 1) == 1;
        }

        private boolean isNoState(int state) {
            return state < 0 || state >= model.states || state >= Model.MOST_STATES;
        }

        private void makeRow(int state) {
            model.valuesOf(state, values);
            markGoals(state);
            int place = state * model.lots;
            int end = place + model.lots;
            for (int r = 0; r < model.ruleCount && r < Model.MOST_RULES && place < end; r++) {
                Rule rule = model.rules[r];
                if (rule.conds.allHold(values)) {
                    System.arraycopy(values, 0, changed, 0, Model.MOST_VARS);
                    rule.effects.change(changed, model.most);
                    int stop = Math.min(place + rule.weight, end);
                    fill(place, stop, model.stateOf(changed) << RULE_BITS | r);
                    place = stop;
                }
            }
            fill(place, end, state << RULE_BITS | NO_RULE);
        }

        private void markGoals(int state) {
            int mark = MADE;
            for (int g = 0; g < model.goalCount && g < Model.MOST_GOALS; g++) {
                if (model.goals[g].allHold(values)) {
                    mark |= 1 << g;
                }
            }
            marks[state] = mark;
        }

        private void fill(int from, int end, int cell) {
            for (int place = from; place < end && place < cells.length; place++) {
                cells[place] = cell;
            }
        }
    }

    /** One RUN as it goes: its LOT and its state. */
    private static final class Walk {
        private static final long RUN_FACTOR = -7046029254386353131L;
        private static final long LOT_FACTOR = 6364136223846793005L, LOT_MORE = 1442695040888963407L;
        private static final int LOT_SHIFT = 33;

        private final Table table;
        private long lot;
        int state;

        Walk(Table table) {
            this.table = table;
        }

        void begin(long seed, int run) {
            lot = seed + run * RUN_FACTOR;
            state = table.firstState();
        }

        /** The RULE that went, or NONE. */
        int step() {
            lot = lot * LOT_FACTOR + LOT_MORE;
            int d = (int) ((lot >>> LOT_SHIFT) % Math.max(1, table.model.lots));
            int cell = table.cell(state, d);
            state = Table.stateIn(cell);
            return Table.ruleIn(cell);
        }

        boolean isAt(int goal) {
            return table.hasGoal(state, goal);
        }

        int valueOf(int var) {
            return table.model.valueIn(state, var);
        }
    }

    /** All rows of numbers d at once: in how many of them each state is come to. */
    private static final class Rows {
        private static final int NO_GOAL = -1;

        private final Table table;
        private long[] ways = new long[Model.MOST_STATES];
        private long[] waysBehind = new long[Model.MOST_STATES];
        private final boolean[] seen = new boolean[Model.MOST_STATES];
        private final int[] waiting = new int[Model.MOST_STATES];

        Rows(Table table) {
            this.table = table;
        }

        long holding(int goal, int n) {
            spread(goal, n);
            int states = stateCount();
            long found = 0;
            for (int s = 0; s < states; s++) {
                if (ways[s] != 0 && table.hasGoal(s, goal)) {
                    found += ways[s];
                }
            }
            return found;
        }

        long total(int var, int n) {
            spread(NO_GOAL, n);
            int states = stateCount();
            long total = 0;
            for (int s = 0; s < states; s++) {
                if (ways[s] != 0) {
                    total += ways[s] * table.model.valueIn(s, var);
                }
            }
            return total;
        }

        int statesComeTo() {
            for (int s = 0; s < Model.MOST_STATES; s++) {
                seen[s] = false;
            }
            int known = see(table.firstState(), 0);
            for (int done = 0; done < known && done < Model.MOST_STATES; done++) {
                int state = waiting[done];
                for (int d = 0; d < table.model.lots; d++) {
                    known = see(Table.stateIn(table.cell(state, d)), known);
                }
            }
            return known;
        }

        private int see(int state, int known) {
            if (state < 0 || state >= Model.MOST_STATES || seen[state] || known >= Model.MOST_STATES) {
                return known;
            }
            seen[state] = true;
            waiting[known] = state;
            return known + 1;
        }

        private int stateCount() {
            return Math.min(table.model.states, Model.MOST_STATES);
        }

        /** A row that is at the goal stays there, whatever its further numbers are: the claim HOLDS. */
        private void spread(int goal, int n) {
            int states = stateCount();
            Arrays.fill(ways, 0L);
            Arrays.fill(waysBehind, 0L);
            int first = table.firstState();
            if (first >= 0 && first < Model.MOST_STATES) {
                ways[first] = 1;
            }
            for (int k = 0; k < n; k++) {
                for (int s = 0; s < states; s++) {
                    if (ways[s] != 0) {
                        spreadFrom(s, goal);
                        // Left empty, for it takes the rows of the next STEP.
                        ways[s] = 0;
                    }
                }
                long[] old = ways;
                ways = waysBehind;
                waysBehind = old;
            }
        }

        private void spreadFrom(int state, int goal) {
            int lots = table.model.lots;
            long here = ways[state];
            if (goal != NO_GOAL && table.hasGoal(state, goal)) {
                waysBehind[state] += here * lots;
                return;
            }
            for (int d = 0; d < lots; d++) {
                int behind = Table.stateIn(table.cell(state, d));
                if (behind >= 0 && behind < Model.MOST_STATES) {
                    waysBehind[behind] += here;
                }
            }
        }
    }

    /** The COUNTS of the claim that was last asked for by BLOCKS. */
    private static final class Counts {
        private static final int WORD_BITS = 6, WORDS = (MOST_BLOCK >> WORD_BITS) + 1;

        private final long[] counted = new long[WORDS];
        int goal = NONE;
        int length = NONE;
        int blocks;
        int held;
        int steps;

        void clear() {
            Arrays.fill(counted, 0L);
            goal = NONE;
            length = NONE;
            blocks = 0;
            held = 0;
            steps = 0;
        }

        void turnTo(int claimGoal, int claimLength) {
            if (claimGoal != goal || claimLength != length) {
                clear();
                goal = claimGoal;
                length = claimLength;
            }
        }

        /** Whether the BLOCK is to be counted now: each is but once. */
        boolean takes(int block) {
            int word = block >> WORD_BITS;
            if (word < 0 || word >= WORDS) {
                return false;
            }
            long bit = 1L << block;
            if ((counted[word] & bit) != 0) {
                return false;
            }
            counted[word] |= bit;
            blocks++;
            return true;
        }

        void note(int step) {
            if (step != NONE) {
                held++;
                steps += step;
            }
        }
    }

    /** Exact sums: chances are counted in cases of 10 to the power m, so that nothing is rounded. */
    private static final class Odds {
        static final int TENTHS = 10;
        private static final int MOST_SIZE = 14, MOST_POWER = 16, THOUSAND = 1000;

        private final long[][] powers = new long[TENTHS + 1][MOST_POWER + 1];
        private final long[][] chooses = new long[MOST_SIZE + 1][MOST_SIZE + 1];

        Odds() {
            for (int base = 0; base <= TENTHS; base++) {
                powers[base][0] = 1;
                for (int k = 1; k <= MOST_POWER; k++) {
                    powers[base][k] = powers[base][k - 1] * base;
                }
            }
            for (int m = 0; m <= MOST_SIZE; m++) {
                chooses[m][0] = 1;
                for (int k = 1; k <= m; k++) {
                    chooses[m][k] = chooses[m - 1][k - 1] + chooses[m - 1][k];
                }
            }
        }

        static boolean isSize(int m) {
            return m >= 1 && m <= MOST_SIZE;
        }

        static boolean isChance(int a) {
            return a >= 0 && a <= THOUSAND;
        }

        int low(int h, int m, int a) {
            if (h == 0) {
                return 0;
            }
            int t = TENTHS;
            while (t > 0 && !isWithin(casesOf(h, m, m, t), m, a)) {
                t--;
            }
            return t;
        }

        int high(int h, int m, int a) {
            if (h == m) {
                return TENTHS;
            }
            int t = 0;
            while (t < TENTHS && !isWithin(casesOf(0, h, m, t), m, a)) {
                t++;
            }
            return t;
        }

        long missed(int m, int t, int a) {
            long missed = 0;
            for (int h = 0; h <= m; h++) {
                if (low(h, m, a) > t || high(h, m, a) < t) {
                    missed += casesOf(h, h, m, t);
                }
            }
            return missed;
        }

        /** 1 or 0 as soon as the odds are clear. */
        int verdict(int h, int m, int p, int q, int bound) {
            long byQ = power(q, h) * power(TENTHS - q, m - h);
            long byP = power(p, h) * power(TENTHS - p, m - h);
            if (byQ >= bound * byP) {
                return 1;
            }
            return byP >= bound * byQ ? 0 : NONE;
        }

        private boolean isWithin(long cases, int m, int a) {
            return cases * THOUSAND <= a * power(TENTHS, m);
        }

        private long casesOf(int fewest, int most, int m, int t) {
            long cases = 0;
            for (int h = fewest; h <= most; h++) {
                cases += choose(m, h) * power(t, h) * power(TENTHS - t, m - h);
            }
            return cases;
        }

        private long power(int base, int k) {
            return base >= 0 && base <= TENTHS && k >= 0 && k <= MOST_POWER ? powers[base][k] : 0;
        }

        private long choose(int m, int k) {
            return m >= 0 && m <= MOST_SIZE && k >= 0 && k <= m ? chooses[m][k] : 0;
        }
    }

    /** A RUN by LEVELS. Copies wait at the LEVEL at which they were made; the highest LEVEL goes on first. */
    private static final class Split {
        static final int MOST_LEVELS = 5, MOST_COPIES = 4;
        // Far above what copies and LEVELS can need: there are never more than 4 to the power 5 copies at one LEVEL.
        private static final int MOST_TURNS = 1000000, MOST_STEPS_IN_ALL = 20000;

        private final Walk walk;
        private final int[] copies = new int[MOST_LEVELS + 1];
        private final int[] states = new int[MOST_LEVELS + 1];
        private final int[] stepsLeft = new int[MOST_LEVELS + 1];
        private int goal;
        private int var;
        private int levels;
        private int factor;
        private int steps;
        private int held;

        Split(Walk walk) {
            this.walk = walk;
        }

        /** The walk stands at its beginning. */
        int heldBy(int claimGoal, int n, int levelVar, int c, int r) {
            goal = claimGoal;
            var = levelVar;
            levels = Math.min(c, MOST_LEVELS);
            factor = r;
            steps = 0;
            held = 0;
            Arrays.fill(copies, 0);
            putCopies(0, 1, n);
            int level = 0;
            for (int turn = 0; turn < MOST_TURNS && level >= 0 && level <= MOST_LEVELS; turn++) {
                if (copies[level] == 0) {
                    level--;
                } else {
                    copies[level]--;
                    level = follow(level);
                }
                if (steps > MOST_STEPS_IN_ALL) {
                    return FULL;
                }
            }
            return held;
        }

        /** One copy goes on till its end or till the next LEVEL: at which LEVEL copies wait then. */
        private int follow(int level) {
            walk.state = states[level];
            for (int left = stepsLeft[level]; left >= 0; left--) {
                int passed = Math.min(levels, walk.valueOf(var));
                if (passed > level) {
                    putCopies(passed, copiesFor(passed - level), left);
                    return passed;
                }
                if (walk.isAt(goal)) {
                    held++;
                    return level;
                }
                if (left > 0) {
                    steps++;
                    walk.step();
                }
            }
            return level;
        }

        private void putCopies(int level, int number, int left) {
            if (level >= 0 && level <= MOST_LEVELS) {
                copies[level] = number;
                states[level] = walk.state;
                stepsLeft[level] = left;
            }
        }

        private int copiesFor(int passed) {
            int number = 1;
            for (int i = 0; i < passed; i++) {
                number *= factor;
            }
            return number;
        }
    }
}
