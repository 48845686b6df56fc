/** Each sentence of promises 1 to 6 (a new object, feed, model, fault, seed, count) that names an edge. */
public final class ModelEdgesTest {
    private static final String TEXT = "lots 5;var a 3 1;rule 2:->a+1;goal a=3;";
    private static final Due due = new Due("ModelEdgesTest");

    public static void main(String[] args) {
        numbersFromZero();
        noModel();
        seedIsZero();
        lowestBytes();
        highestFirst();
        howManyBytes();
        badSizes();
        noneComes();
        tapeIsEmptyThen();
        howManyStates();
        placeOfFault();
        modelStays();
        modelIsTaken();
        olderPartsAreGone();
        olderValuesAreGone();
        partsOfFaultsAreGone();
        noFaultBefore();
        latestFault();
        anySeed();
        seedStays();
        countOfEach();
        countRefused();
        due.end();
    }

    private static void numbersFromZero() {
        due.sentence("Numbers go from 0 on.");
        ChanceRuns x = Due.with("lots 1;var a 9 3;var b 9 5;rule 1:a<4->a+1;rule 1:->b+1;goal a=4;goal b=6;");
        due.is("the first VAR", x.value(0, 0, 0), 3);
        due.is("the second VAR", x.value(0, 0, 1), 5);
        due.is("the first GOAL", x.holds(0, 9, 0), 1);
        due.is("the second GOAL", x.holds(1, 9, 0), 2);
        due.is("the first RULE", x.goes(0, 1), 0);
        due.is("the second RULE", x.goes(0, 2), 1);
        due.is("the first BLOCK", x.block(0, 9, 0), 1);
        due.is("the first GOAL told", x.told(3), 0);
        due.is("the first place", Due.model(x, "!"), -1000);
        due.is("the second place", Due.model(x, " !"), -1001);
    }

    private static void noModel() {
        due.sentence("ChanceRuns(): No MODEL");
        ChanceRuns x = new ChanceRuns();
        due.is("count(0)", x.count(0), -3);
        due.is("goes(0, 1)", x.goes(0, 1), -3);
        due.is("reached()", x.reached(), -3);
        // One object's MODEL is not another's.
        ChanceRuns y = Due.with(TEXT);
        due.is("count(0) beside a MODEL", x.count(0), -3);
        due.is("count(0) of the MODEL", y.count(0), 5);
        due.is("count(0) of a third", new ChanceRuns().count(0), -3);
        due.is("tape of a third", new ChanceRuns().feed(0, 1), 1);
    }

    private static String writer() {
        StringBuilder text = new StringBuilder("lots 12;var d 12 12;");
        for (int r = 0; r < 12; r++) {
            text.append("rule 1:->d=").append(r).append(';');
        }
        return text + "goal d=3;";
    }

    private static void numbersBy(ChanceRuns x, long seed) {
        for (int run : new int[] {0, 1, 999999}) {
            int[] d = Due.numbers(seed, run, 12, 5);
            for (int k = 1; k <= 5; k++) {
                due.is("d of SEED " + seed + ", RUN " + run + ", STEP " + k, x.value(run, k, 0), d[k]);
            }
        }
    }

    private static void seedIsZero() {
        due.sentence("ChanceRuns(): .. SEED is 0.");
        numbersBy(Due.with(writer()), 0);
        ChanceRuns other = Due.with(writer());
        other.seed(5);
        numbersBy(Due.with(writer()), 0);
    }

    private static void lowestBytes() {
        due.sentence("The lowest n bytes of w (1 to 8)");
        byte[] bytes = Due.bytesOf(TEXT);
        for (int n = 1; n <= 8; n++) {
            ChanceRuns x = new ChanceRuns();
            for (int at = 0; at < bytes.length; at += n) {
                int size = Math.min(n, bytes.length - at);
                // What stands above the lowest n bytes is no part of them.
                long w = 0x6161616161616161L;
                for (int k = 0; k < size; k++) {
                    w = w << 8 | bytes[at + k];
                }
                due.is("feed by " + n, x.feed(w, size), at + size);
            }
            due.is("model fed by " + n, x.model(), 4);
        }
    }

    private static void highestFirst() {
        due.sentence("the highest of them first, come behind the tape");
        ChanceRuns x = new ChanceRuns();
        x.feed(0x6c6f747320353b76L, 8);
        x.feed(0x6172L, 2);
        x.feed(0x2061203320313b67L, 8);
        x.feed(0x6f616c20613d33L, 7);
        due.is("the last byte", x.feed(0x3b, 1), 26);
        due.is("model", x.model(), 4);
        due.is("W", x.count(0), 5);
        due.is("value at first", x.value(0, 0, 0), 1);
        // A byte of 128 and more, in front and behind.
        ChanceRuns y = new ChanceRuns();
        y.feed(0x20ff, 2);
        due.is("the 255 is the second", y.model(), -1001);
        y.feed(0x8020202020202020L, 8);
        due.is("the 128 is the first", y.model(), -1000);
        y.feed(0x2020202020202080L, 8);
        due.is("the 128 is the last", y.model(), -1007);
    }

    private static void howManyBytes() {
        due.sentence("how many it has");
        ChanceRuns x = new ChanceRuns();
        int has = 0;
        for (int n = 1; n <= 8; n++) {
            has += n;
            due.is("feed(-1, " + n + ")", x.feed(-1, n), has);
        }
        due.is("bytes that are 0 count too", x.feed(0, 8), 44);
    }

    private static void badSizes() {
        due.sentence("feed: BAD: n");
        ChanceRuns x = new ChanceRuns();
        for (int n : new int[] {0, 9, -1, -8, 10, 16, 256, 257, Integer.MIN_VALUE, Integer.MAX_VALUE}) {
            due.is("feed(-1, " + n + ")", x.feed(-1, n), -2);
        }
        due.is("none of them has come", x.feed(-1, 1), 1);
    }

    private static void noneComes() {
        due.sentence("feed: FULL: none comes.");
        ChanceRuns x = new ChanceRuns();
        String text = TEXT.substring(0, TEXT.length() - 1);
        Due.feed(x, text + " ".repeat(799 - text.length()));
        for (int n = 2; n <= 8; n++) {
            due.is("feed of " + n, x.feed(-1, n), -4);
        }
        due.is("the last one", x.feed(';', 1), 800);
        due.is("one more", x.feed(-1, 1), -4);
        due.is("model", x.model(), 4);
    }

    private static void tapeIsEmptyThen() {
        due.sentence("The tape, empty then, is read");
        ChanceRuns x = Due.with(TEXT);
        due.is("behind a MODEL", x.feed(-1, 3), 3);
        due.is("a FAULT", x.model(), -1000);
        due.is("behind a FAULT", x.feed(-1, 5), 5);
        due.is("a FAULT again", x.model(), -1000);
        due.is("the empty tape", x.model(), -1000);
        due.is("its FAULT", x.fault(), 1);
        due.is("all 800 are free", Due.feed(x, " ".repeat(800)), 800);
        due.is("model of 800 blanks", x.model(), -1800);
        due.is("all 800 are free again", Due.feed(x, " ".repeat(800)), 800);
        // What an earlier, longer text left is not read.
        ChanceRuns y = new ChanceRuns();
        Due.model(y, TEXT.replace(";", "  ") + TEXT);
        due.is("a part of the text", Due.model(y, TEXT.substring(0, 17)), -1017);
        due.is("its FAULT", y.fault(), 4);
        due.is("a part of a word", Due.model(y, "lot"), -1000);
        for (String older : new String[] {">", "-", "a", "0", " ", "\n", ";"}) {
            ChanceRuns z = new ChanceRuns();
            Due.model(z, older.repeat(80));
            due.is("'-' at the end, ahead of an older " + older, Due.model(z, "lots 5;var a 3 0;rule 1:-"), -1024);
            due.is("a NAME at the end, ahead of an older " + older, Due.model(z, "lots 5;var a 3 0;goal a"), -1023);
            due.is("a NUMBER at the end, ahead of an older " + older, Due.model(z, "lots 5;var a 3 0;goal a=1"), -1025);
            due.is("a SIGN at the end, ahead of an older " + older, Due.model(z, "lots 5;var a 3 0;goal a=1;"), 4);
            ChanceRuns blank = new ChanceRuns();
            Due.model(blank, older.repeat(80));
            due.is("blanks alone, ahead of an older " + older, Due.model(blank, " \n "), -1003);
            due.is("a blank at the end, ahead of an older " + older, Due.model(blank, "lots 5;var a 3 0; "), -1018);
        }
    }

    private static void howManyStates() {
        due.sentence("how many states there are (all values of all VARS)");
        due.taken("lots 1;var a 0 0;goal a=0;", 1);
        due.taken("lots 1;var a 1 0;goal a=0;", 2);
        due.taken("lots 1;var a 30 0;goal a=0;", 31);
        due.taken("lots 1;var a 0 0;var b 30 0;goal a=0;", 31);
        due.taken("lots 1;var a 1 0;var b 2 0;var c 3 0;var d 4 0;goal a=0;", 120);
        due.taken("lots 1;var a 30 0;var b 30 0;goal a=0;", 961);
        due.taken("lots 1;var a 9 0;var b 9 0;var c 9 0;goal a=0;", 1000);
    }

    private static void placeOfFault() {
        due.sentence("-1000 less the place of a FAULT");
        for (int place : new int[] {0, 1, 9, 100, 798, 799}) {
            due.fault(" ".repeat(place) + "!", place, 1);
        }
        due.fault(" ".repeat(800), 800, 1);
    }

    private static void modelStays() {
        due.sentence("a FAULT: THE MODEL stays.");
        // Each text with a FAULT goes far into its own VARS, RULES and GOALS first.
        String[] faults = {"", "lots 7;", "lots 7;var b 9 9;", "lots 7;var b 9 9;var c 9 10;",
            "lots 7;var b 9 9;rule 7:->b=0;", "lots 7;var b 9 9;rule 7:->b=0;goal b=9;goal b=0;!",
            "lots 7;var b 9 9;rule 7:b=9->b=0;goal b=9;goal b=9;goal b=9;goal b=9;goal"};
        ChanceRuns x = Due.with(TEXT);
        ChanceRuns same = Due.with(TEXT);
        x.block(0, 20, 3);
        same.block(0, 20, 3);
        for (String text : faults) {
            due.is("a FAULT", Due.model(x, text) <= -1000 ? 1 : 0, 1);
            for (int what = 0; what < 4; what++) {
                due.is("count(" + what + ")", x.count(what), same.count(what));
            }
            for (int what = 0; what < 5; what++) {
                due.is("told(" + what + ")", x.told(what), same.told(what));
            }
            due.is("value", x.value(3, 20, 0), same.value(3, 20, 0));
            due.is("goes", x.goes(3, 2), same.goes(3, 2));
            due.is("holds", x.holds(0, 60, 9), same.holds(0, 60, 9));
            due.is("exact", x.exact(0, 9), same.exact(0, 9));
            due.is("sum", x.sum(0, 9), same.sum(0, 9));
            due.is("reached", x.reached(), same.reached());
            due.is("moves", x.moves(0), same.moves(0));
        }
        // No MODEL stays no MODEL.
        ChanceRuns none = new ChanceRuns();
        for (String text : faults) {
            Due.model(none, text);
            due.is("no MODEL", none.count(0), -3);
            due.is("no GOAL", none.holds(0, 0, 0), -2);
            due.is("no VAR", none.value(0, 0, 0), -2);
        }
    }

    private static void modelIsTaken() {
        due.sentence("it is THE MODEL");
        ChanceRuns x = Due.with(TEXT);
        x.holds(0, 60, 0);
        Due.model(x, "lots 3;var a 3 3;var b 9 9;rule 1:->b-1;rule 1:->b=0;goal b=0;goal a=3;");
        due.is("W", x.count(0), 3);
        due.is("VARS", x.count(1), 2);
        due.is("RULES", x.count(2), 2);
        due.is("GOALS", x.count(3), 2);
        due.is("value at first", x.value(0, 0, 0), 3);
        due.is("value at first of b", x.value(0, 0, 1), 9);
        due.is("reached", x.reached(), 10);
        due.is("exact", x.exact(0, 1), 1);
        due.is("moves(1)", x.moves(1), 2);
        due.is("behind a FAULT one may be taken too", Due.model(x, "!"), -1000);
        due.is("the first again", Due.model(x, TEXT), 4);
        due.is("W again", x.count(0), 5);
        due.is("exact again", x.exact(0, 2), 4);
    }

    private static void olderPartsAreGone() {
        due.sentence("it is THE MODEL (and no part of an older one is)");
        // The same states, and in their places other RULES and GOALS with fewer CONDS and EFFECTS.
        ChanceRuns x = Due.with("lots 2;var a 9 0;rule 2:a<9&a<8&a<7->a+1,a+1,a+1;rule 2:->a=9;goal a=9&a>8&a>7;goal a=0;");
        due.is("reached", x.reached(), 4);
        Due.model(x, "lots 2;var a 9 9;rule 2:a>0->a-1;goal a=0;");
        due.is("reached by ones", x.reached(), 10);
        due.is("holds", x.holds(0, 60, 0), 9);
        due.is("goes at 9", x.goes(0, 9), 0);
        due.is("goes at 10", x.goes(0, 10), -1);
        due.is("no second GOAL", x.holds(1, 60, 0), -2);
        Due.model(x, "lots 2;var a 9 9;goal a=0;");
        due.is("no RULE", x.goes(0, 1), -1);
        due.is("one state", x.reached(), 1);
        due.is("none moves", x.moves(0), 0);
    }

    private static void olderValuesAreGone() {
        due.sentence("how many states there are (a VAR that is 0 alone, where an older one was more)");
        ChanceRuns x = Due.with("lots 1;var a 9 0;var b 9 0;var c 9 0;rule 1:->a+1,b+1,c+1;goal a=9;");
        due.is("the older one", x.holds(0, 60, 0), 9);
        due.is("states of the older one", x.reached(), 10);
        due.is("one state", Due.model(x, "lots 1;var a 0 0;var b 0 0;var c 0 0;rule 1:a=0&b=0->a+1,b+1;goal a=0&b=0&c=0;goal c>0;"), 1);
        due.is("all are 0", x.holds(0, 60, 0), 0);
        due.is("none is more", x.holds(1, 60, 0), -1);
        due.is("the RULE goes", x.goes(0, 60), 0);
        due.is("exact", x.exact(0, 60), 1);
    }

    private static void partsOfFaultsAreGone() {
        due.sentence("it is THE MODEL (and no part of a text with a FAULT is)");
        ChanceRuns x = new ChanceRuns();
        String more = "lots 1;var b 9 9;var a 9 0;rule 1:b>0&b>1&b>2->b-1,a+1,a+1;rule 1:->a+1;rule 1:->b=0,a=0;goal a=5;goal a=6;!";
        due.is("a FAULT at its end", Due.model(x, more), -1000 - more.length() + 1);
        due.is("a smaller MODEL", Due.model(x, "lots 1;var a 9 0;goal a=0;"), 10);
        due.is("RULES", x.count(2), 0);
        due.is("none goes", x.goes(0, 1), -1);
        due.is("one state", x.reached(), 1);
        due.is("none moves", x.moves(0), 0);
        due.is("a FAULT again", Due.model(x, more), -1000 - more.length() + 1);
        due.is("another MODEL", Due.model(x, "lots 1;var a 1 0;var b 9 0;rule 1:b<9->b+1;goal b=9;"), 20);
        due.is("its RULE alone", x.goes(0, 9), 0);
        due.is("none behind it", x.goes(0, 10), -1);
        due.is("states", x.reached(), 10);
        due.is("moves(0)", x.moves(0), 0);
        due.is("moves(1)", x.moves(1), 1);
    }

    private static void noFaultBefore() {
        due.sentence("fault(): 0 before one.");
        ChanceRuns x = new ChanceRuns();
        due.is("of a new object", x.fault(), 0);
        x.feed(0, 9);
        x.count(9);
        x.holds(0, 0, 0);
        due.is("behind refused calls", x.fault(), 0);
        Due.model(x, TEXT);
        due.is("behind a MODEL", x.fault(), 0);
    }

    private static void latestFault() {
        due.sentence("fault(): The number of the latest FAULT");
        ChanceRuns x = new ChanceRuns();
        String[] texts = {"!", "lots 5;goal b=1;", "lots 0;", "lots 5;"};
        for (int number = 1; number <= 4; number++) {
            Due.model(x, texts[number - 1]);
            due.is("FAULT " + number, x.fault(), number);
            Due.model(x, TEXT);
            due.is("behind a MODEL", x.fault(), number);
            x.seed(number);
            due.is("behind seed()", x.fault(), number);
        }
        for (int number = 4; number >= 1; number--) {
            Due.model(x, texts[number - 1]);
            due.is("FAULT " + number + " again", x.fault(), number);
        }
    }

    private static void anySeed() {
        due.sentence("seed(): SEED becomes z: 1.");
        ChanceRuns x = Due.with(writer());
        for (long z : new long[] {1, -1, 0, Long.MAX_VALUE, Long.MIN_VALUE, 1L << 32, 1L << 31, 7046029254386353131L}) {
            due.is("seed(" + z + ")", x.seed(z), 1);
            numbersBy(x, z);
        }
    }

    private static void seedStays() {
        due.sentence("seed(): SEED becomes z (ahead of a MODEL too, and for all that are taken then)");
        ChanceRuns x = new ChanceRuns();
        due.is("seed without a MODEL", x.seed(-123456789123456789L), 1);
        Due.model(x, writer());
        numbersBy(x, -123456789123456789L);
        Due.model(x, "!");
        numbersBy(x, -123456789123456789L);
        Due.model(x, writer());
        numbersBy(x, -123456789123456789L);
    }

    private static void countOfEach() {
        due.sentence("How many: 0 W, 1 VARS, 2 RULES, 3 GOALS.");
        counts("lots 1;var a 3 1;goal a=3;", 1, 1, 0, 1);
        counts("lots 20;var a 1 0;var b 1 0;var c 1 0;var d 1 0;" + "rule 20:->a+1;".repeat(12) + "goal a=1;".repeat(4),
            20, 4, 12, 4);
        counts("lots 7;var a 1 0;var b 1 0;" + "rule 1:->a+1;".repeat(5) + "goal a=1;".repeat(3), 7, 2, 5, 3);
    }

    private static void counts(String text, int w, int vars, int rules, int goals) {
        ChanceRuns x = Due.with(text);
        due.is("W", x.count(0), w);
        due.is("VARS", x.count(1), vars);
        due.is("RULES", x.count(2), rules);
        due.is("GOALS", x.count(3), goals);
    }

    private static void countRefused() {
        due.sentence("count(): BAD; STATE.");
        ChanceRuns none = new ChanceRuns();
        ChanceRuns x = Due.with(TEXT);
        for (int what : new int[] {-1, 4, 5, Integer.MIN_VALUE, Integer.MAX_VALUE}) {
            due.is("count(" + what + ") without a MODEL", none.count(what), -2);
            due.is("count(" + what + ")", x.count(what), -2);
        }
        for (int what = 0; what <= 3; what++) {
            due.is("count(" + what + ") without a MODEL", none.count(what), -3);
        }
    }
}
