import java.math.BigInteger;
import java.nio.charset.StandardCharsets;

/** What the tests share: rows of answers that are due, and texts fed to an object. */
final class Due {
    private final String test;
    private int asked;
    private int wrong;
    private String words = "";
    private int askedOfWords;

    Due(String test) {
        this.test = test;
    }

    /** The words of the document that the answers from here on are due by. */
    void sentence(String of) {
        endSentence();
        words = of;
        askedOfWords = 0;
    }

    private void endSentence() {
        if (!words.isEmpty() && askedOfWords == 0) {
            wrong++;
            System.out.println(test + ": nothing was asked of '" + words + "'");
        }
    }

    void is(String call, long got, long want) {
        asked++;
        askedOfWords++;
        if (got != want) {
            wrong++;
            System.out.println(test + ": " + call + " answered " + got + ", due is " + want
                + (words.isEmpty() ? "" : " ('" + words + "')"));
        }
    }

    void end() {
        endSentence();
        System.out.println(test + ": " + asked + " answers, " + wrong + " not as due");
        if (wrong != 0) {
            System.exit(1);
        }
    }

    static byte[] bytesOf(String text) {
        return text.getBytes(StandardCharsets.ISO_8859_1);
    }

    static int feed(ChanceRuns x, String text) {
        byte[] bytes = bytesOf(text);
        int answer = 0;
        for (int at = 0; at < bytes.length; at += 8) {
            int n = Math.min(8, bytes.length - at);
            long w = 0;
            for (int k = 0; k < n; k++) {
                w = w << 8 | bytes[at + k] & 255;
            }
            answer = x.feed(w, n);
        }
        return answer;
    }

    static int model(ChanceRuns x, String text) {
        feed(x, text);
        return x.model();
    }

    static ChanceRuns with(String text) {
        ChanceRuns x = new ChanceRuns();
        int states = model(x, text);
        if (states < 1) {
            throw new IllegalStateException(text + " has a fault: " + states);
        }
        return x;
    }

    /** The numbers d of STEPS 1 to n of a RUN, by big numbers. */
    static int[] numbers(long seed, int run, int w, int n) {
        BigInteger size = BigInteger.ONE.shiftLeft(64);
        BigInteger lot = new BigInteger("-7046029254386353131").multiply(BigInteger.valueOf(run))
            .add(BigInteger.valueOf(seed)).mod(size);
        int[] d = new int[n + 1];
        for (int k = 1; k <= n; k++) {
            lot = lot.multiply(new BigInteger("6364136223846793005"))
                .add(new BigInteger("1442695040888963407")).mod(size);
            d[k] = lot.shiftRight(33).mod(BigInteger.valueOf(w)).intValue();
        }
        return d;
    }

    /** The text is to be taken, with so many states and without a FAULT. */
    void taken(String text, int states) {
        ChanceRuns x = new ChanceRuns();
        is("model of '" + text + "'", model(x, text), states);
        is("fault of '" + text + "'", x.fault(), 0);
    }

    /** The text is to have this FAULT at this place. */
    void fault(String text, int place, int number) {
        ChanceRuns x = new ChanceRuns();
        is("model of '" + text + "'", model(x, text), -1000 - place);
        is("fault of '" + text + "'", x.fault(), number);
        is("count(0) behind '" + text + "'", x.count(0), ChanceRuns.STATE);
    }
}
