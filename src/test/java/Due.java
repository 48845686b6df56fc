import java.nio.charset.StandardCharsets;

/** What the tests share: rows of answers that are due, and texts fed to an object. */
final class Due {
    private final String test;
    private int asked;
    private int wrong;

    Due(String test) {
        this.test = test;
    }

    void is(String call, long got, long want) {
        asked++;
        if (got != want) {
            wrong++;
            System.out.println(test + ": " + call + " answered " + got + ", due is " + want);
        }
    }

    void end() {
        System.out.println(test + ": " + asked + " answers, " + wrong + " not as due");
        if (wrong != 0) {
            System.exit(1);
        }
    }

    static byte[] bytesOf(String text) {
        return text.getBytes(StandardCharsets.ISO_8859_1);
    }

    static int feed(ChanceRuns x, String text) {
        byte[] bytes = bytesOf(text);
        int answer = 0;
        for (int at = 0; at < bytes.length; at += 8) {
            int n = Math.min(8, bytes.length - at);
            long w = 0;
            for (int k = 0; k < n; k++) {
                w = w << 8 | bytes[at + k] & 255;
            }
            answer = x.feed(w, n);
        }
        return answer;
    }

    static int model(ChanceRuns x, String text) {
        feed(x, text);
        return x.model();
    }

    static ChanceRuns with(String text) {
        ChanceRuns x = new ChanceRuns();
        int states = model(x, text);
        if (states < 1) {
            throw new IllegalStateException(text + " has a fault: " + states);
        }
        return x;
    }

    /** The text is to have this FAULT at this place. */
    void fault(String text, int place, int number) {
        ChanceRuns x = new ChanceRuns();
        is("model of '" + text + "'", model(x, text), -1000 - place);
        is("fault of '" + text + "'", x.fault(), number);
        is("count(0) behind '" + text + "'", x.count(0), ChanceRuns.STATE);
    }
}
