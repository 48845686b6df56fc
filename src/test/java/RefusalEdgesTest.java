import java.lang.management.ManagementFactory;
import java.nio.ByteBuffer;
import java.util.ArrayList;
import java.util.List;
import java.util.function.ToLongFunction;

/** The sentences on refusals, on calls without a MODEL, and on how long an object is used. */
public final class RefusalEdgesTest {
    private static final String TEXT = "lots 10;var s 9 8;var i 9 1;rule 4:s>0&i>0->s-1,i+1;rule 3:i>0->i-1;"
        + "goal i=0;goal i>4;goal s=0;goal s>8;";
    private static final int LEAST = Integer.MIN_VALUE, MOST = Integer.MAX_VALUE;
    private static final Due due = new Due("RefusalEdgesTest");

    private record Call(String name, ToLongFunction<ChanceRuns> ask) { }

    public static void main(String[] args) {
        badAheadOfState();
        noVarAndNoGoal();
        badAheadOfFull();
        refusedChangesNothing();
        refusedWithoutModel();
        usedFor512Calls();
        anyNumbersInAnyState();
        sameCallsSameAnswers();
        room();
        due.end();
    }

    private static void badAheadOfState() {
        due.sentence("Refusals are answers, the first of these that fits: BAD .., STATE ..");
        ChanceRuns x = new ChanceRuns();
        due.is("count(0)", x.count(0), -3);
        due.is("count(3)", x.count(3), -3);
        due.is("count(4)", x.count(4), -2);
        due.is("count(-1)", x.count(-1), -2);
        due.is("goes(999999, 60)", x.goes(999999, 60), -3);
        due.is("goes(1000000, 60)", x.goes(1000000, 60), -2);
        due.is("goes(-1, 60)", x.goes(-1, 60), -2);
        due.is("goes(999999, 61)", x.goes(999999, 61), -2);
        due.is("goes(0, 0)", x.goes(0, 0), -2);
        due.is("reached()", x.reached(), -3);
    }

    private static void noVarAndNoGoal() {
        due.sentence("without one no VAR and no GOAL is there, so what asks for one is BAD");
        ChanceRuns x = new ChanceRuns();
        due.is("holds", x.holds(0, 0, 0), -2);
        due.is("value", x.value(0, 0, 0), -2);
        due.is("exact", x.exact(0, 0), -2);
        due.is("sum", x.sum(0, 0), -2);
        due.is("block", x.block(0, 0, 0), -2);
        due.is("both", x.both(0, 0, 0, 0, 0), -2);
        due.is("test", x.test(0, 0, 1, 2, 2, 0), -2);
        due.is("split", x.split(0, 0, 0, 1, 1, 0), -2);
        due.is("moves", x.moves(0), -2);
        // What asks for neither answers without one, too.
        due.is("told", x.told(0), 0);
        due.is("ends", x.ends(1, 1, 100, 0), 1);
        due.is("misses", x.misses(1, 5, 0), 0);
        due.is("seed", x.seed(1), 1);
        due.is("fault", x.fault(), 0);
    }

    private static void badAheadOfFull() {
        due.sentence("the first of these that fits: BAD .. FULL");
        ChanceRuns x = Due.with("lots 20;var l 9 5;goal l=0;");
        due.is("exact FULL", x.exact(0, 60), -4);
        due.is("exact BAD", x.exact(1, 60), -2);
        due.is("exact BAD n", x.exact(0, 61), -2);
        due.is("sum FULL", x.sum(0, 60), -4);
        due.is("sum BAD", x.sum(1, 60), -2);
        due.is("sum BAD n", x.sum(0, 61), -2);
        due.is("split FULL", x.split(0, 60, 0, 5, 4, 0), -4);
        due.is("split BAD", x.split(0, 60, 0, 5, 4, -1), -2);
        Due.feed(x, " ".repeat(800));
        due.is("feed FULL", x.feed(0, 1), -4);
        due.is("feed BAD", x.feed(0, 9), -2);
        due.is("feed BAD 0", x.feed(0, 0), -2);
    }

    /** An object with something of all there is: a MODEL, a SEED, COUNTS, a FAULT, and bytes on the tape. */
    private static ChanceRuns used() {
        ChanceRuns x = new ChanceRuns();
        Due.model(x, "lots 0;");
        Due.model(x, TEXT);
        x.seed(77);
        x.block(0, 20, 3);
        x.block(0, 20, 9999);
        Due.feed(x, "lots 3;var a 9");
        return x;
    }

    /** What can be known of an object; the tape is known by what comes of it. */
    private static List<Long> all(ChanceRuns x) {
        List<Long> known = new ArrayList<>();
        known.add((long) x.fault());
        for (int what = 0; what < 5; what++) {
            known.add((long) x.told(what));
            known.add((long) x.count(Math.min(3, what)));
        }
        for (int k = 1; k < 20; k++) {
            known.add((long) x.goes(5, k));
            known.add((long) x.value(6, k, 0));
            known.add((long) x.holds(k % 4, k, 7));
        }
        known.add((long) x.block(0, 20, 3));
        known.add((long) x.block(0, 20, 4));
        known.add((long) x.told(2));
        known.add(x.exact(0, 9));
        known.add(x.sum(1, 9));
        known.add((long) x.reached());
        known.add((long) x.split(1, 20, 1, 4, 3, 7));
        known.add((long) x.test(0, 20, 4, 6, 5, 1));
        known.add((long) x.moves(1));
        known.add((long) Due.feed(x, " 3;goal a=3;"));
        known.add((long) x.model());
        known.add((long) x.count(0));
        known.add((long) x.value(0, 0, 0));
        return known;
    }

    private static void refused(String name, long answer, ToLongFunction<ChanceRuns> ask) {
        ChanceRuns x = used();
        due.is(name, ask.applyAsLong(x), answer);
        due.is("all as before behind " + name, all(x).equals(all(used())) ? 1 : 0, 1);
    }

    private static void refusedChangesNothing() {
        due.sentence("What is refused changes nothing.");
        refused("feed n 0", -2, x -> x.feed('!', 0));
        refused("feed n 9", -2, x -> x.feed('!', 9));
        refused("count(4)", -2, x -> x.count(4));
        refused("holds", -2, x -> x.holds(4, 1, 0));
        refused("value", -2, x -> x.value(0, 61, 0));
        refused("goes", -2, x -> x.goes(0, 0));
        refused("exact BAD", -2, x -> x.exact(0, 61));
        refused("exact FULL", -4, x -> x.exact(0, 19));
        refused("sum BAD", -2, x -> x.sum(2, 1));
        refused("sum FULL", -4, x -> x.sum(0, 18));
        refused("block GOAL", -2, x -> x.block(4, 20, 1));
        refused("block n", -2, x -> x.block(1, 61, 1));
        refused("block b of another claim", -2, x -> x.block(1, 20, 10000));
        refused("block b of the same claim", -2, x -> x.block(0, 20, -1));
        refused("told(5)", -2, x -> x.told(5));
        refused("both", -2, x -> x.both(0, 1, 20, 501, 0));
        refused("ends", -2, x -> x.ends(2, 1, 0, 0));
        refused("misses", -2, x -> x.misses(15, 0, 0));
        refused("test", -2, x -> x.test(0, 20, 5, 5, 2, 0));
        refused("split BAD", -2, x -> x.split(0, 20, 0, 6, 1, 0));
        refused("split FULL", -4, x -> x.split(2, 60, 0, 5, 4, 0));
        refused("moves", -2, x -> x.moves(2));
        // A tape that is FULL keeps its bytes, and no others.
        ChanceRuns x = new ChanceRuns();
        Due.feed(x, TEXT + " ".repeat(800 - TEXT.length()));
        due.is("feed FULL", x.feed(';', 1), -4);
        due.is("model", x.model(), 100);
    }

    private static void refusedWithoutModel() {
        due.sentence("STATE (there is no MODEL ..) (and there is none behind it)");
        ChanceRuns x = new ChanceRuns();
        due.is("count", x.count(0), -3);
        due.is("goes", x.goes(0, 1), -3);
        due.is("reached", x.reached(), -3);
        due.is("block", x.block(0, 0, 0), -2);
        due.is("told(0)", x.told(0), 0);
        due.is("told(3)", x.told(3), -1);
        due.is("fault", x.fault(), 0);
        due.is("model, then", Due.model(x, TEXT), 100);
        due.is("as a new one", x.block(0, 20, 3), 1);
    }

    private static List<Call> everyCall(int a, int b, int c) {
        return List.of(
            new Call("feed", x -> x.feed(a * 0x0101010101010101L, b)), new Call("fault", x -> x.fault()),
            new Call("count", x -> x.count(a)), new Call("holds", x -> x.holds(a, b, c)),
            new Call("value", x -> x.value(c, b, a)), new Call("goes", x -> x.goes(c, b)),
            new Call("exact", x -> x.exact(a, b)), new Call("sum", x -> x.sum(a, b)),
            new Call("reached", x -> x.reached()), new Call("block", x -> x.block(a, b, c)),
            new Call("told", x -> x.told(a)), new Call("both", x -> x.both(a, a, b, c, a)),
            new Call("ends", x -> x.ends(a, b, c, a)), new Call("misses", x -> x.misses(b, a, c)),
            new Call("test", x -> x.test(a, b, 1, b, c, a)), new Call("split", x -> x.split(a, b, a, b, b, c)),
            new Call("moves", x -> x.moves(a)));
    }

    private static void usedFor512Calls() {
        due.sentence("An object is used for at most 512 calls after it has been made");
        ChanceRuns x = new ChanceRuns();
        int calls = 0;
        for (byte b : Due.bytesOf(TEXT)) {
            x.feed(b, 1);
            calls++;
        }
        due.is("model", x.model(), 100);
        calls++;
        for (int b = 0; calls < 511; calls++, b++) {
            due.is("call " + calls, x.block(0, 60, b), b + 1);
        }
        due.is("the 512th", x.told(0), 10 * (511 - TEXT.length() - 1));
        // MODELS alone: 102 of them, by 5 calls each.
        ChanceRuns y = new ChanceRuns();
        String text = "lots 1;var a 9 0;goal a=0;";
        for (int k = 0; k < 102; k++) {
            due.is("MODEL " + k, Due.model(y, text), 10);
        }
        due.is("the 511th", y.count(0), 1);
        due.is("the 512th", y.count(1), 1);
    }

    private static void anyNumbersInAnyState() {
        due.sentence("Refusals are answers (no call ever throws, whatever its numbers are)");
        int[] edges = {LEAST, LEAST + 1, -5, -2, -1, 0, 1, 2, 3, 4, 5, 9, 14, 15, 60, 61, 500, 501, 1000000, MOST - 1, MOST};
        String[] texts = {"", "lots 1;var a 0 0;goal a=0;", TEXT, "lots 20;var a 9 9;var b 9 9;var c 9 9;rule 20:->a=0,b=0;goal a=0;"};
        int thrown = 0;
        for (String text : texts) {
            for (int a : edges) {
                for (int b : edges) {
                    ChanceRuns x = new ChanceRuns();
                    if (!text.isEmpty()) {
                        Due.model(x, text);
                    }
                    for (int c : edges) {
                        for (Call call : everyCall(a, b, c)) {
                            try {
                                call.ask.applyAsLong(x);
                            } catch (RuntimeException e) {
                                thrown++;
                                System.out.println(call.name + " of " + a + ", " + b + ", " + c + " threw " + e);
                            }
                        }
                    }
                }
            }
        }
        due.is("calls that threw", thrown, 0);
    }

    private static void sameCallsSameAnswers() {
        due.sentence("Nothing is promised beyond the answers and state changes (the same calls, the same answers)");
        due.is("twice the same", all(used()).equals(all(used())) ? 1 : 0, 1);
        // Calls on one object do not change another.
        ChanceRuns x = used();
        ChanceRuns y = used();
        List<Long> first = all(x);
        Due.model(x, "lots 1;var q 1 1;goal q=1;");
        x.seed(-1);
        due.is("beside another object", all(y).equals(first) ? 1 : 0, 1);
    }

    /** What a run makes is counted: the constructor and the first MODEL make all there is. */
    private static void room() {
        due.sentence("All calls of one run live in ONE room");
        if (!(ManagementFactory.getThreadMXBean() instanceof com.sun.management.ThreadMXBean bean)
                || !bean.isThreadAllocatedMemorySupported() || !bean.isThreadAllocatedMemoryEnabled()) {
            due.is("not counted by this machine", 0, 0);
            return;
        }
        // Once ahead, so that what the machine itself makes at first is not counted.
        madeBy(bean);
        due.is("bytes made by an object and 500 of its dearest calls, below 400000", madeBy(bean) < 400000 ? 1 : 0, 1);
    }

    private static long madeBy(com.sun.management.ThreadMXBean bean) {
        // Blanks, so that the last bytes of the text fill a whole feed.
        ByteBuffer text = ByteBuffer.wrap(Due.bytesOf(TEXT + " ".repeat(7)));
        int taken = 0;
        long before = bean.getCurrentThreadAllocatedBytes();
        ChanceRuns x = new ChanceRuns();
        // Many MODELS too: what one of them has made is used again by the next.
        for (int round = 0; round < 21; round++) {
            for (int at = 0; at + 8 <= text.limit(); at += 8) {
                x.feed(text.getLong(at), 8);
            }
            taken += x.model() == 100 ? 1 : 0;
            x.block(0, 60, round);
            x.exact(round & 3, 18);
            x.sum(1, 17);
            x.reached();
            x.both(0, 1, 60, 500, 0);
            x.misses(14, 5, round);
            x.test(round & 3, 60, 4, 6, 20, 0);
            x.split(1, 60, 1, 5, 4, round);
            x.holds(round & 3, 60, 0);
            x.seed(round);
        }
        long made = bean.getCurrentThreadAllocatedBytes() - before;
        due.is("MODELS taken", taken, 21);
        return made;
    }
}
