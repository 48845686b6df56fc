/** Promises 1 to 6: a new object, feed, model, fault, seed, count; and of the terms the TEXTS. */
public final class ModelsTest {
    private static final String HEAD = "lots 5;var a 3 0;";
    private static final String SMALL = "lots 5;var a 3 1;rule 2:->a+1;goal a=3;";
    private static final Due due = new Due("ModelsTest");

    public static void main(String[] args) {
        newObject();
        feed();
        goodTexts();
        strangeTokens();
        wrongNames();
        wrongNumbers();
        tooMany();
        faultsLeaveTheModel();
        olderBytes();
        seed();
        count();
        due.end();
    }

    private static void newObject() {
        ChanceRuns x = new ChanceRuns();
        due.is("count(0)", x.count(0), -3);
        due.is("fault()", x.fault(), 0);
        due.is("reached()", x.reached(), -3);
        due.is("goes(0, 1)", x.goes(0, 1), -3);
        due.is("holds(0, 0, 0)", x.holds(0, 0, 0), -2);
        due.is("moves(0)", x.moves(0), -2);
        due.is("told(0)", x.told(0), 0);
        due.is("told(3)", x.told(3), -1);
        due.is("told(4)", x.told(4), -1);
        // SEED is 0 at first: seed(0) changes no RUN.
        ChanceRuns y = Due.with("lots 20;var a 30 15;rule 9:->a+1;rule 9:->a-1;goal a=20;");
        int before = y.value(7, 33, 0);
        y.seed(0);
        due.is("value behind seed(0)", y.value(7, 33, 0), before);
    }

    private static void feed() {
        ChanceRuns x = new ChanceRuns();
        due.is("feed n 0", x.feed(0, 0), -2);
        due.is("feed n 9", x.feed(0, 9), -2);
        due.is("feed n -1", x.feed(0, -1), -2);
        due.is("feed n greatest", x.feed(0, Integer.MAX_VALUE), -2);
        for (int k = 1; k <= 99; k++) {
            due.is("feed 8", x.feed(-1, 8), 8 * k);
        }
        due.is("feed to 799", x.feed(-1, 7), 799);
        due.is("feed over", x.feed(-1, 2), -4);
        due.is("feed n 9 when nearly full", x.feed(-1, 9), -2);
        due.is("feed the last", x.feed(-1, 1), 800);
        due.is("feed one more", x.feed(-1, 1), -4);
        due.is("model of 800 bytes", x.model(), -1000);
        due.is("feed behind model", x.feed(-1, 1), 1);

        // The bytes above the lowest n are left out; the highest of the n comes first.
        ChanceRuns y = new ChanceRuns();
        y.feed(0x7777776c6f747320L, 5);
        y.feed(0x2031303b20202020L, 8);
        y.feed(0x76617220, 4);
        Due.feed(y, "a 3 0;goal a=1;");
        due.is("model fed by parts", y.model(), 4);
        due.is("its W", y.count(0), 10);

        // A text of 800 bytes, its last token at the very end.
        StringBuilder text = new StringBuilder("lots 5;var a 3 0;goal a=1");
        while (text.length() < 799) {
            text.append(text.length() % 2 == 0 ? ' ' : '\n');
        }
        ChanceRuns z = new ChanceRuns();
        due.is("800 bytes", Due.feed(z, text + ";"), 800);
        due.is("model", z.model(), 4);
        due.fault(text + "-", 799, 1);
        due.fault(text.substring(0, 798) + "  ", 800, 1);
    }

    private static void goodTexts() {
        due.is("small", Due.model(new ChanceRuns(), SMALL), 4);
        due.is("blanks", Due.model(new ChanceRuns(), "\n lots\n5 ;var  a 3\n0 ; rule 1 : a < 2 & a > 0 -> a + 1 , a = 2 ; goal a = 3 ; \n"), 4);
        due.is("no blanks", Due.model(new ChanceRuns(), "lots5;var a3 0;rule1:a<2->a+1;goal a=3;"), 4);
        due.is("one state", Due.model(new ChanceRuns(), "lots 1;var a 0 0;goal a=0;"), 1);
        due.is("1000 states", Due.model(new ChanceRuns(), "lots 20;var a 9 9;var b 9 0;var c 9 9;var d 0 0;goal d=0;"), 1000);
        due.is("words as names", Due.model(new ChanceRuns(),
            "lots 1;var lots 1 0;var var 1 0;var rule 1 0;var goal 1 0;rule 1:rule=0->rule+1;goal goal=1;"), 16);
        due.is("names alike", Due.model(new ChanceRuns(), "lots 1;var a 1 0;var aa 2 0;var aaa 3 0;var aaaaaa 4 0;goal aaaaaa=1;"), 120);
        due.is("figures with 0", Due.model(new ChanceRuns(), "lots 05;var a 03 00;rule 05:->a+99;goal a=99;"), 4);
        due.is("three of each", Due.model(new ChanceRuns(), HEAD + "rule 1:a<1&a=0&a>3->a+1,a-1,a=1;goal a<1&a<1&a<1;"), 4);
        due.is("all there may be", Due.model(new ChanceRuns(), "lots 1;" + "var a 1 0;"
            + "rule 1:->a+1;".repeat(12) + "goal a=1;".repeat(4)), 2);
    }

    private static void strangeTokens() {
        due.fault("", 0, 1);
        due.fault("  \n", 3, 1);
        due.fault("lot 5;", 0, 1);
        due.fault(" lotss 5;", 1, 1);
        due.fault("var a 3 0;goal a=1;", 0, 1);
        due.fault("lots", 4, 1);
        due.fault("lots a;", 5, 1);
        due.fault("lots 100;", 5, 1);
        due.fault("lots -5;", 5, 1);
        due.fault("lots 5", 6, 1);
        due.fault("lots 5 ,", 7, 1);
        due.fault("Lots 5;", 0, 1);
        due.fault("lots 5;\tvar a 3 0;goal a=1;", 7, 1);
        due.fault("lots 5;\rvar a 3 0;goal a=1;", 7, 1);
        due.fault("lots 5;\u00e1", 7, 1);
        due.fault("lots 5;\u0000", 7, 1);
        due.fault("lots 5;var 3 a 0;", 11, 1);
        due.fault("lots 5;var abcdefg 3 0;", 11, 1);
        due.fault("lots 5;var a 003 0;", 13, 1);
        due.fault("lots 5;var a 30;", 15, 1);
        due.fault("lots 5;vara 3 0;", 7, 1);
        due.fault("lots 5;lots 5;", 7, 1);
        due.fault(HEAD + "rule :->a+1;", 22, 1);
        due.fault(HEAD + "rule 1->a+1;", 23, 1);
        due.fault(HEAD + "rule 1:;", 24, 1);
        due.fault(HEAD + "rule 1:->;", 26, 1);
        due.fault(HEAD + "rule 1:&a=1->a+1;", 24, 1);
        due.fault(HEAD + "rule 1:a=1&->a+1;", 28, 1);
        due.fault(HEAD + "rule 1:a=1,a=1->a+1;", 27, 1);
        due.fault(HEAD + "rule 1:a+1->a+1;", 25, 1);
        due.fault(HEAD + "rule 1:a->1->a+1;", 25, 1);
        due.fault(HEAD + "rule 1:- >a+1;", 24, 1);
        due.fault(HEAD + "rule 1:->a>1;", 27, 1);
        due.fault(HEAD + "rule 1:->a->1;", 27, 1);
        due.fault(HEAD + "rule 1:->a+1&a+1;", 29, 1);
        due.fault(HEAD + "rule 1:->a+1,;", 30, 1);
        due.fault(HEAD + "rule 1:->a+1", 29, 1);
        due.fault(HEAD + "goal ;", 22, 1);
        due.fault(HEAD + "goal a=1,a=1;", 25, 1);
        due.fault(HEAD + "goal a=b;", 24, 1);
        due.fault(HEAD + "goal a=100;", 24, 1);
        due.fault(HEAD + "goal a=1;var b 1 0;", 26, 1);
        due.fault(HEAD + "goal a=1;rule 1:->a+1;", 26, 1);
        due.fault(HEAD + "rule 1:->a+1;var b 1 0;", 30, 1);
        due.fault(HEAD + "goal a=1;;", 26, 1);
        due.fault(HEAD + "goal a=1;\n a", 28, 1);
        due.fault(HEAD + "goal a=1 \n", 27, 1);
    }

    private static void wrongNames() {
        due.fault("lots 5;goal a=1;", 12, 2);
        due.fault("lots 5;rule 1:->a+1;", 16, 2);
        due.fault(HEAD + "var a 1 0;", 21, 2);
        due.fault(HEAD + "goal b=1;", 22, 2);
        due.fault(HEAD + "goal aa=1;", 22, 2);
        due.fault(HEAD + "goal a=1&b=1;", 26, 2);
        due.fault(HEAD + "rule 1:b=1->a+1;", 24, 2);
        due.fault(HEAD + "rule 1:->b+1;", 26, 2);
        // Of one token the least: a 4th COND or EFFECT whose NAME is not known.
        due.fault(HEAD + "goal a=1&a=1&a=1&b=1;", 34, 2);
        due.fault(HEAD + "rule 1:->a=1,a=1,a=1,b=1;", 38, 2);
        // The first token that has one.
        due.fault(HEAD + "goal b:", 22, 2);
    }

    private static void wrongNumbers() {
        due.fault("lots 0;", 5, 3);
        due.fault("lots 00;", 5, 3);
        due.fault("lots 21;", 5, 3);
        due.fault("lots 99 x", 5, 3);
        due.fault("lots 5;var a 31 0;", 13, 3);
        due.fault("lots 5;var a 3 4;", 15, 3);
        due.fault("lots 5;var a 0 1;", 15, 3);
        due.fault(HEAD + "rule 0:->a+1;", 22, 3);
        due.fault(HEAD + "rule 6:->a+1;", 22, 3);
        // Of one token the least: a greatest value that is wrong, and would make too many states.
        due.fault("lots 5;var a 30 0;var b 30 0;var c 31 0;", 35, 3);
    }

    private static void tooMany() {
        due.fault("lots 5;", 7, 4);
        due.fault("lots 5; \n", 9, 4);
        due.fault(HEAD, 17, 4);
        due.fault(HEAD + "rule 1:->a+1;", 30, 4);
        due.fault("lots 5;var a 1 0;var b 1 0;var c 1 0;var d 1 0;var e 1 0;", 47, 4);
        due.fault("lots 5;var a 1 0;var b 1 0;var c 1 0;var d 1 0;var a 99", 47, 4);
        due.fault("lots 5;var a 30 0;var b 30 0;var c 1 0;", 35, 4);
        due.fault("lots 5;var a 9 0;var b 9 0;var c 10 99;", 33, 4);
        // 7 times 11 times 13 is 1001.
        due.fault("lots 5;var a 6 0;var b 10 0;var c 12 0;goal a=0;", 34, 4);
        due.fault(HEAD + "rule 1:->a+1;".repeat(13), 17 + 12 * 13, 4);
        due.fault(HEAD + "rule 1:->a+1;".repeat(12) + "rule;", 17 + 12 * 13, 4);
        due.fault(HEAD + "goal a=1;".repeat(5), 17 + 4 * 9, 4);
        due.fault(HEAD + "goal a=1;".repeat(4) + "var;", 17 + 4 * 9, 1);
        due.fault(HEAD + "goal a=1&a=1&a=1&a=1;", 34, 4);
        due.fault(HEAD + "goal a=1&a=1&a=1&;", 34, 1);
        due.fault(HEAD + "rule 1:a=1&a=1&a=1&a=1->a+1;", 36, 4);
        due.fault(HEAD + "rule 1:->a+1,a+1,a+1,a+1;", 38, 4);
    }

    private static void faultsLeaveTheModel() {
        ChanceRuns x = Due.with(SMALL);
        due.is("no fault yet", x.fault(), 0);
        due.is("block", x.block(0, 9, 0), 1);
        x.seed(5);
        x.block(0, 9, 0);
        int third = x.value(3, 9, 0);
        due.is("fault 3", Due.model(x, "lots 7;var b 9 10;goal b=1;"), -1015);
        due.is("fault()", x.fault(), 3);
        due.is("W stays", x.count(0), 5);
        due.is("RULES stay", x.count(2), 1);
        due.is("COUNTS stay", x.told(0), 10);
        due.is("values stay", x.value(3, 9, 0), third);
        due.is("the tape is empty", x.feed(32, 1), 1);
        due.is("only a blank", x.model(), -1001);
        due.is("fault() then", x.fault(), 1);
        due.is("another model", Due.model(x, "lots 7;var b 9 4;goal b=4;goal b=5;"), 10);
        due.is("fault() stays", x.fault(), 1);
        due.is("W", x.count(0), 7);
        due.is("RULES", x.count(2), 0);
        due.is("COUNTS begin anew", x.told(0), 0);
        due.is("no claim", x.told(3), -1);
        due.is("no length", x.told(4), -1);
        due.is("moves", x.moves(0), 0);
        due.is("again the first", Due.model(x, SMALL), 4);
        due.is("SEED stays", x.value(3, 9, 0), third);
    }

    /** What an earlier text left behind the end is not read. */
    private static void olderBytes() {
        for (String older : new String[] {" ", "\n", "a", "5", ">", ";", "-"}) {
            for (String text : new String[] {"lots", "lots 5;", "lots 5;var a 3 0;goal a", "lots 5;var a 3 0;goal a=1",
                    "lots 5;var a 3 0;rule 1:-"}) {
                ChanceRuns fresh = new ChanceRuns();
                ChanceRuns used = new ChanceRuns();
                Due.model(used, older.repeat(80));
                due.is("'" + text + "' behind many of '" + older + "'", Due.model(used, text), Due.model(fresh, text));
                due.is("its fault", used.fault(), fresh.fault());
            }
        }
    }

    private static void seed() {
        ChanceRuns x = Due.with("lots 20;var a 19 0;" + "rule 1:->a+7;rule 9:->a-3;" + "goal a=19;");
        due.is("seed", x.seed(Long.MIN_VALUE), 1);
        int[] seeds = {0, 1, -1, 12345};
        for (int z : seeds) {
            due.is("seed(" + z + ")", x.seed(z), 1);
            due.is("goes by seed " + z, x.goes(0, 1), ruleBy(z));
        }
        x.block(0, 4, 2);
        due.is("counted", x.told(0), 10);
        due.is("the same seed", x.seed(12345), 1);
        due.is("COUNTS begin anew", x.told(0), 0);
        due.is("no claim", x.told(3), -1);
        due.is("BLOCK 2 again", x.block(0, 4, 2), 1);
    }

    private static int ruleBy(long z) {
        long lot = z * 6364136223846793005L + 1442695040888963407L;
        long d = Long.remainderUnsigned(lot >>> 33, 20);
        return d < 1 ? 0 : d < 10 ? 1 : -1;
    }

    private static void count() {
        ChanceRuns x = new ChanceRuns();
        for (int what = 0; what < 4; what++) {
            due.is("count without a model", x.count(what), -3);
        }
        due.is("count(-1)", x.count(-1), -2);
        due.is("count(4)", x.count(4), -2);
        Due.model(x, "lots 17;var a 1 0;var b 1 0;var c 1 0;rule 3:->a=1;rule 4:->b=1;goal a=1;");
        due.is("W", x.count(0), 17);
        due.is("VARS", x.count(1), 3);
        due.is("RULES", x.count(2), 2);
        due.is("GOALS", x.count(3), 1);
        due.is("count(4) with a model", x.count(4), -2);
        due.is("count(-1) with a model", x.count(-1), -2);
    }
}
