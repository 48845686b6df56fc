/** Each sentence of TEXTS (terms, 1) that names an edge, with a test of its own. */
public final class TextEdgesTest {
    private static final String HEAD = "lots 5;var a 3 0;";
    private static final String TAIL = "goal a=0;";
    private static final Due due = new Due("TextEdgesTest");

    public static void main(String[] args) {
        tapeIsFull();
        tapeIsReadToItsEnd();
        blanks();
        noBlanks();
        blanksInsideOfTokens();
        asLongAsCanBe();
        lettersOfNames();
        lengthOfNames();
        namesThatDiffer();
        words();
        figures();
        lengthOfNumbers();
        signs();
        arrow();
        tooLong();
        partsThatMayBeLeftOut();
        partsThatMayNotBeLeftOut();
        partsInTheirOrder();
        tokensThatAreNone();
        theEnd();
        lots();
        greatestValue();
        valueAtFirst();
        weight();
        anyNumber();
        firstToken();
        leastOfOneToken();
        nameNotKnown();
        nameAlready();
        fifthVar();
        thirteenthRule();
        fifthGoal();
        fourthCond();
        fourthEffect();
        thousandStates();
        noVarNoGoal();
        due.end();
    }

    private static boolean isBlank(int b) {
        return b == 32 || b == 10;
    }

    private static boolean isIn(int b, String all) {
        return all.indexOf(b) >= 0;
    }

    private static void tapeIsFull() {
        due.sentence("THE TAPE has at most 800 bytes");
        for (int n = 1; n <= 8; n++) {
            ChanceRuns x = new ChanceRuns();
            Due.feed(x, " ".repeat(800 - n));
            due.is("the last " + n, x.feed(0, n), 800);
            due.is("one more", x.feed(0, 1), -4);
            ChanceRuns y = new ChanceRuns();
            Due.feed(y, " ".repeat(801 - n));
            due.is(n + " for " + (n - 1), y.feed(0, n), -4);
            if (n > 1) {
                due.is("none has come", y.feed(0, n - 1), 800);
            }
        }
    }

    private static void tapeIsReadToItsEnd() {
        due.sentence("THE TAPE has at most 800 bytes (all of which are read)");
        String blanks = " \n".repeat(400);
        String text = HEAD + "goal a=1;";
        due.taken(text.substring(0, 25) + blanks.substring(0, 774) + ";", 4);
        due.taken(blanks.substring(0, 774) + text, 4);
        due.taken(text + blanks.substring(0, 774), 4);
        due.fault(blanks, 800, 1);
        due.fault(text + blanks.substring(0, 773) + "-", 799, 1);
        due.fault(text + blanks.substring(0, 772) + "->", 798, 1);
        due.fault(text + blanks.substring(0, 768) + "abcdef", 794, 1);
        due.fault(text + blanks.substring(0, 772) + "12", 798, 1);
        due.fault(text.substring(0, 24) + blanks.substring(0, 774) + "99", 800, 1);
        // A word whose last letter is the tape's last byte is that word: what is missing behind it is missing at the end.
        due.fault(text + blanks.substring(0, 770) + "goal", 800, 1);
        due.fault(HEAD + blanks.substring(0, 779) + "rule", 800, 1);
        due.fault(HEAD + blanks.substring(0, 780) + "var", 800, 1);
        due.fault(blanks.substring(0, 796) + "lots", 800, 1);
        due.fault(HEAD + "goal a=1;".repeat(4) + blanks.substring(0, 743) + "goal", 796, 4);
    }

    private static void blanks() {
        due.sentence("bytes 32 and 10 between TOKENS where one likes");
        for (int b = 0; b < 256; b++) {
            String text = "lots 5;" + (char) b + "var a 3 0;" + TAIL;
            if (isBlank(b)) {
                due.taken(text, 4);
            } else {
                due.fault(text, 7, 1);
            }
        }
        String[] tokens = ("lots|5|;|var|a|3|0|;|rule|1|:|a|<|2|&|a|>|0|->|a|+|1|,|a|-|1|;|goal|a|=|1|;").split("\\|");
        for (String blank : new String[] {" ", "\n", "  ", " \n", "\n\n\n"}) {
            due.taken(blank + String.join(blank, tokens) + blank, 4);
        }
    }

    private static void noBlanks() {
        due.sentence("between TOKENS where one likes (and none, where none is needed)");
        due.taken("lots5;var a3 0;rule1:a<2&a>0->a+1,a-1;goal a=1;", 4);
        due.taken("lots\n5;var a3\n0;goal\na=1;", 4);
        // Where two TOKENS would become one, a blank is needed.
        due.fault("lots5;vara3 0;goal a=1;", 6, 1);
        due.fault("lots5;var a30;goal a=1;", 13, 1);
        due.fault("lots5;var a3 0;goala=1;", 15, 1);
    }

    private static void blanksInsideOfTokens() {
        due.sentence("bytes 32 and 10 between TOKENS (not inside of one)");
        due.fault("lo ts 5;", 0, 1);
        due.fault("lots 1 0;", 7, 1);
        due.fault("lots 5;v\nar a 3 0;", 7, 1);
        due.fault("lots 5;var a b 3 0;", 13, 1);
        due.fault(HEAD + "rule 1:- >a+1;", 24, 1);
        due.fault(HEAD + "rule 1:a=1-\n>a+1;", 27, 1);
        due.fault(HEAD + "goal a=1 1;", 26, 1);
    }

    private static void asLongAsCanBe() {
        due.sentence("TOKENS, each as long as can be");
        due.fault("lots 5;var a 30;", 15, 1);
        due.fault(HEAD + "rule 1:->a->1;", 27, 1);
        due.fault(HEAD + "rule 1:a->a+1;", 25, 1);
        due.fault(HEAD + "goal a->1;", 23, 1);
        due.fault(HEAD + "rule 1:-->a+1;", 24, 1);
        due.fault(HEAD + "rule 1:->>a+1;", 26, 1);
        // 12 is one NUMBER, not a 1 and a 2.
        ChanceRuns x = Due.with("lots 1;var a 30 12;goal a=1;goal a=12;goal a=2;");
        due.is("a=1", x.holds(0, 0, 0), -1);
        due.is("a=12", x.holds(1, 0, 0), 0);
        due.is("a=2", x.holds(2, 0, 0), -1);
    }

    private static void lettersOfNames() {
        due.sentence("NAMES (letters a to z");
        for (int b = 0; b < 256; b++) {
            String text = "lots 5;var " + (char) b + " 3 0;goal " + (char) b + "=1;";
            if (b >= 'a' && b <= 'z') {
                due.taken(text, 4);
            } else {
                due.fault(text, isBlank(b) ? 13 : 11, 1);
            }
        }
        // At a further place a byte that is no letter ends the NAME.
        for (int b = 0; b < 256; b++) {
            String text = "lots 5;var a" + (char) b + " 3 0;goal a=1;";
            if (isBlank(b)) {
                due.taken(text, 4);
            } else if (b >= 'a' && b <= 'z') {
                due.fault(text, 23, 2);
            } else if (b >= '0' && b < '3') {
                due.fault(text, 14, 3);
            } else if (b >= '3' && b <= '9') {
                due.fault(text, 16, 1);
            } else {
                due.fault(text, 12, 1);
            }
        }
    }

    private static void lengthOfNames() {
        due.sentence("NAMES (letters a to z, 6 at most)");
        for (int n = 1; n <= 6; n++) {
            due.taken("lots 5;var " + "z".repeat(n) + " 3 0;goal " + "z".repeat(n) + "=1;", 4);
        }
        for (int n = 7; n <= 40; n++) {
            due.fault("lots 5;var " + "z".repeat(n) + " 3 0;goal " + "z".repeat(n) + "=1;", 11, 1);
        }
        due.fault(HEAD + "goal aaaaaaa=1;", 22, 1);
        due.fault(HEAD + "rule 1:->aaaaaaa+1;", 26, 1);
        // All six letters count, and how many there are.
        due.taken("lots 5;var abcdef 1 0;var abcdeg 1 0;var bbcdef 1 0;var abcde 1 0;goal abcde=1;", 16);
        due.taken("lots 5;var a 1 0;var aa 1 0;var aaaaa 1 0;var aaaaaa 1 0;goal aaaaaa=1;", 16);
        due.fault("lots 5;var abcdef 1 0;goal abcdeg=1;", 27, 2);
        due.fault("lots 5;var abcdef 1 0;goal abcde=1;", 27, 2);
    }

    private static void namesThatDiffer() {
        due.sentence("2 a NAME that is not known (it differs in a letter, or in how many there are)");
        String[] names = new String[90];
        for (int k = 0; k < 26; k++) {
            String letter = "" + (char) ('a' + k);
            names[k] = letter;
            names[26 + k] = letter + letter;
            names[52 + k] = letter.repeat(6);
        }
        String[] others = {"ab", "ba", "az", "za", "zb", "bz", "aab", "baa", "aba", "abcdef", "abcdeg", "bbcdef"};
        System.arraycopy(others, 0, names, 78, 12);
        for (String known : names) {
            ChanceRuns x = new ChanceRuns();
            for (int k = 0; k < names.length; k++) {
                // Some six calls each: an object is used for 512.
                x = k % 60 == 0 ? new ChanceRuns() : x;
                String text = "lots1;var " + known + "1 0;goal ";
                int answer = Due.model(x, text + names[k] + "=0;");
                due.is(known + " and " + names[k], answer, names[k].equals(known) ? 2 : -1000 - text.length());
            }
        }
    }

    private static void words() {
        due.sentence("'lots' .. 'var' .. 'rule' .. 'goal' (each letter of them)");
        String[] ahead = {"", "lots 5;", HEAD, HEAD};
        String[] words = {"lots", "var", "rule", "goal"};
        String[] behind = {" 5;var a 3 0;" + TAIL, " a 3 0;" + TAIL, " 1:->a+1;" + TAIL, " a=0;"};
        for (int w = 0; w < 4; w++) {
            due.taken(ahead[w] + words[w] + behind[w], 4);
            for (int k = 0; k < words[w].length(); k++) {
                for (char other = 'a'; other <= 'z'; other++) {
                    String word = words[w].substring(0, k) + other + words[w].substring(k + 1);
                    if (!word.equals(words[w])) {
                        due.fault(ahead[w] + word + behind[w], ahead[w].length(), 1);
                    }
                }
            }
            due.fault(ahead[w] + words[w].substring(1) + behind[w], ahead[w].length(), 1);
            due.fault(ahead[w] + words[w].substring(0, words[w].length() - 1) + behind[w], ahead[w].length(), 1);
            due.fault(ahead[w] + words[w] + "s" + behind[w], ahead[w].length(), 1);
        }
    }

    private static void figures() {
        due.sentence("NUMBERS (figures");
        for (int b = 0; b < 256; b++) {
            String text = "lots " + (char) b + ";var a 3 0;goal a=1;";
            if (b >= '1' && b <= '9') {
                due.taken(text, 4);
                due.is("W of '" + text + "'", Due.with(text).count(0), b - '0');
            } else {
                due.fault(text, isBlank(b) ? 6 : 5, b == '0' ? 3 : 1);
            }
        }
        for (int n = 0; n <= 99; n++) {
            String text = "lots 1;var a 30 " + n % 31 + ";goal a=" + n + ";";
            due.is("at first '" + text + "'", Due.with(text).holds(0, 0, 0), n < 31 ? 0 : -1);
        }
    }

    private static void lengthOfNumbers() {
        due.sentence("NUMBERS (figures, 2 at most)");
        due.taken("lots 05;var a 03 00;rule 05:a=00->a+00;goal a=03;", 4);
        due.fault("lots 005;", 5, 1);
        due.fault("lots 000;", 5, 1);
        due.fault("lots 100;", 5, 1);
        due.fault("lots 5;var a 003 0;", 13, 1);
        due.fault("lots 5;var a 3 000;", 15, 1);
        due.fault(HEAD + "rule 001:->a+1;", 22, 1);
        due.fault(HEAD + "rule 1:a=001->a+1;", 26, 1);
        due.fault(HEAD + "rule 1:->a+100;", 28, 1);
        due.fault(HEAD + "goal a=100;", 24, 1);
    }

    private static void signs() {
        due.sentence("SIGNS ; : & , < > = + - and ->");
        for (int b = 0; b < 256; b++) {
            sign(b, HEAD + "goal a", "1;", "<=>", "");
            sign(b, HEAD + "rule 1:a", "1->a+1;", "<=>", TAIL);
            sign(b, HEAD + "rule 1:->a", "1;", "=+-", TAIL);
            sign(b, HEAD + "rule 1 ", " ->a+1;", ":", TAIL);
            sign(b, "lots 5 ", " var a 3 0;", ";", TAIL);
            sign(b, "lots 5;var a 3 0 ", " ", ";", TAIL);
            // Behind a COND or an EFFECT two SIGNS may stand, one of which ends it.
            if (b != ';') {
                sign(b, HEAD + "goal a=1 ", " a=1;", "&", "");
                sign(b, HEAD + "rule 1:a=1 ", " a=1->a+1;", "&", TAIL);
                sign(b, HEAD + "rule 1:->a+1 ", " a+1;", ",", TAIL);
            }
            if (b != '&' && b != ',') {
                sign(b, HEAD + "goal a=1 ", "", ";", "");
                sign(b, HEAD + "rule 1:->a+1 ", " ", ";", TAIL);
            }
        }
    }

    /** One byte where a SIGN is to stand: the signs are taken, all else is a FAULT at its place. */
    private static void sign(int b, String ahead, String behind, String signs, String tail) {
        String text = ahead + (char) b + behind + tail;
        int place = ahead.length();
        if (isIn(b, signs)) {
            due.is("model of '" + text + "'", Due.model(new ChanceRuns(), text), 4);
        } else if (isBlank(b)) {
            due.fault(text, behind.startsWith(" ") ? place + 2 : place + 1, 1);
        } else if (b >= 'a' && b <= 'z' && ahead.endsWith("a")) {
            // It becomes a part of the NAME ahead of it.
            due.fault(text, place - 1, 2);
        } else {
            due.fault(text, place, 1);
        }
    }

    private static void arrow() {
        due.sentence("SIGNS .. - and ->");
        due.taken(HEAD + "rule 1:a>0->a-1;" + TAIL, 4);
        due.taken(HEAD + "rule 1:->a-1;" + TAIL, 4);
        due.fault(HEAD + "rule 1:a>0-a-1;" + TAIL, 27, 1);
        due.fault(HEAD + "rule 1:a>0>a-1;" + TAIL, 27, 1);
        due.fault(HEAD + "rule 1:a>0-", 27, 1);
        due.fault(HEAD + "rule 1:a>0->", 29, 1);
        due.fault(HEAD + "rule 1:a>0=>a-1;" + TAIL, 27, 1);
        due.fault(HEAD + "rule 1:A a+1;" + TAIL, 24, 1);
    }

    private static void tooLong() {
        due.sentence("What is too long is no TOKEN.");
        due.fault("lotslot 5;", 0, 1);
        due.fault(" \n lotsxxx 5;", 3, 1);
        due.fault("a".repeat(800), 0, 1);
        due.fault("lots " + "1".repeat(795), 5, 1);
        due.fault("lots 5;var" + "r".repeat(6) + " a 3 0;", 7, 1);
        due.fault(HEAD + "goal a=1&a=1&a=1&aaaaaaa=1;", 34, 1);
        due.fault(HEAD + "goal a=1;goalgoal a=1;", 26, 1);
    }

    private static void partsThatMayBeLeftOut() {
        due.sentence("{ 'rule' .. } [ CONDS ] { ',' EFFECT } { '&' COND }");
        due.taken(HEAD + TAIL, 4);
        due.taken(HEAD + "rule 1:->a+1;" + TAIL, 4);
        due.taken(HEAD + "rule 1:a=0->a+1;" + TAIL, 4);
        due.taken(HEAD + "rule 1:a=0&a=0->a+1,a+1;goal a=0&a=0;", 4);
        due.taken(HEAD + "rule 1:a=0&a=0&a=0->a+1,a+1,a+1;goal a=0&a=0&a=0;", 4);
    }

    private static void partsThatMayNotBeLeftOut() {
        due.sentence("text: 'lots' NUMBER ';' .. (1 it cannot stand there)");
        String[] tokens = "lots|5|;|var|a|3|0|;|rule|1|:|a|<|2|&|a|>|0|->|a|+|1|,|a|-|1|;|goal|a|=|1|;".split("\\|");
        for (int out = 0; out < tokens.length; out++) {
            StringBuilder text = new StringBuilder();
            int place = 0;
            for (int k = 0; k < tokens.length; k++) {
                // Without its first NUMBER a VAR lacks the second one.
                place = k == (out == 5 ? 7 : out + 1) ? text.length() : place;
                text.append(k == out ? "" : tokens[k] + " ");
            }
            due.fault(text.toString(), out == tokens.length - 1 ? text.length() : place, 1);
        }
    }

    private static void partsInTheirOrder() {
        due.sentence("text: 'lots' .. { 'var' .. } { 'rule' .. } { 'goal' .. }");
        due.fault("var a 3 0;lots 5;" + TAIL, 0, 1);
        due.fault("lots 5;lots 5;", 7, 1);
        due.fault(HEAD + "lots 5;", 17, 1);
        due.fault(HEAD + "rule 1:->a+1;var b 1 0;" + TAIL, 30, 1);
        due.fault(HEAD + TAIL + "var b 1 0;", 26, 1);
        due.fault(HEAD + TAIL + "rule 1:->a+1;", 26, 1);
        due.fault(HEAD + TAIL + ";", 26, 1);
        due.fault(HEAD + ";" + TAIL, 17, 1);
        due.fault(HEAD + "rules 1:->a+1;" + TAIL, 17, 1);
        due.fault(HEAD + "goa a=1;", 17, 1);
        due.fault(HEAD + "goals a=1;", 17, 1);
    }

    private static void tokensThatAreNone() {
        due.sentence("1 it cannot stand there, or is none");
        String[] tokens = "lots|5|;|var|a|3|0|;|rule|1|:|a|<|2|&|a|>|0|->|a|+|1|,|a|-|1|;|goal|a|=|1|;".split("\\|");
        for (int other = 0; other < tokens.length; other++) {
            insteadOf(other, tokens, "abcdefg");
            insteadOf(other, tokens, "100");
            for (int b = 0; b < 256; b++) {
                boolean begins = b >= 'a' && b <= 'z' || b >= '0' && b <= '9' || isIn(b, ";:&,<>=+-");
                if (!begins && !isBlank(b)) {
                    insteadOf(other, tokens, String.valueOf((char) b));
                }
            }
        }
    }

    private static void insteadOf(int other, String[] tokens, String none) {
        StringBuilder text = new StringBuilder();
        int place = 0;
        for (int k = 0; k < tokens.length; k++) {
            place = k == other ? text.length() : place;
            text.append(k == other ? none : tokens[k]).append(' ');
        }
        due.fault(text.toString(), place, 1);
    }

    private static void theEnd() {
        due.sentence("(the end: how many bytes there are)");
        String[] tokens = "lots|5|;|var|a|3|0|;|rule|1|:|a|<|2|&|a|>|0|->|a|+|1|,|a|-|1|;|goal|a|=|1|;".split("\\|");
        StringBuilder text = new StringBuilder();
        for (int k = 0; k < tokens.length; k++) {
            boolean isWhole = tokens[k].equals(";");
            text.append(k == 0 ? "" : " ").append(tokens[k]);
            if (k < tokens.length - 1) {
                for (String blanks : new String[] {"", " ", "\n \n"}) {
                    due.fault(text + blanks, text.length() + blanks.length(), isWhole ? 4 : 1);
                }
            }
        }
        due.taken(text.toString(), 4);
        due.fault("", 0, 1);
        due.fault(" ", 1, 1);
        due.fault("\n".repeat(800), 800, 1);
    }

    private static void lots() {
        due.sentence("LOTS: W, 1 to 20");
        for (int w = 0; w <= 99; w++) {
            String text = "lots " + w + ";var a 3 0;" + TAIL;
            if (w >= 1 && w <= 20) {
                due.is("W", Due.with(text).count(0), w);
            } else {
                due.fault(text, 5, 3);
            }
        }
        due.fault("lots 00;", 5, 3);
    }

    private static void greatestValue() {
        due.sentence("A VAR: its greatest value (0 to 30)");
        for (int most = 0; most <= 99; most++) {
            String text = "lots 5;var a " + most + " 0;" + TAIL;
            if (most <= 30) {
                due.taken(text, most + 1);
            } else {
                due.fault(text, 13, 3);
            }
        }
    }

    private static void valueAtFirst() {
        due.sentence("a value at first (above the greatest one)");
        for (int most = 0; most <= 30; most++) {
            for (int first : new int[] {0, most, most + 1, 99}) {
                String text = "lots 5;var a " + most + " " + first + ";goal a<" + first + ";";
                if (first <= most) {
                    due.is("value at first of '" + text + "'", Due.with(text).value(0, 0, 0), first);
                } else {
                    due.fault(text, most < 10 ? 15 : 16, 3);
                }
            }
        }
    }

    private static void weight() {
        due.sentence("A RULE: its weight, 1 to W");
        for (int w : new int[] {1, 2, 9, 10, 20}) {
            String head = "lots " + w + ";var a 3 0;";
            for (int weight = 0; weight <= 99; weight++) {
                String text = head + "rule " + weight + ":->a+1;" + TAIL;
                if (weight >= 1 && weight <= w) {
                    due.taken(text, 4);
                } else {
                    due.fault(text, head.length() + 5, 3);
                }
            }
        }
    }

    private static void anyNumber() {
        due.sentence("3 a NUMBER: W, a greatest value, a value at first, a weight (no other one)");
        for (int n = 0; n <= 99; n++) {
            due.taken(HEAD + "rule 1:a<" + n + "&a=" + n + "&a>" + n + "->a=" + n + ",a+" + n + ",a-" + n
                + ";goal a<" + n + "&a=" + n + "&a>" + n + ";", 4);
        }
    }

    private static void firstToken() {
        due.sentence("FAULTS, the first TOKEN that has one (its first byte)");
        due.fault("  lots  21  ;var a 31 99;goal b=100;", 8, 3);
        due.fault("lots 5;var a 31 99;goal b=100;", 13, 3);
        due.fault("lots 5;var a 3 99;goal b=100;", 15, 3);
        due.fault(HEAD + "goal \n b=100;", 24, 2);
        due.fault(HEAD + "goal a=100;goal b=1;", 24, 1);
        due.fault(HEAD + "rule 6:b=1->!;", 22, 3);
        due.fault(HEAD + "rule 5:b=1->!;", 24, 2);
        due.fault(HEAD + "rule 5:a=1->!;", 29, 1);
    }

    private static void leastOfOneToken() {
        due.sentence("FAULTS .. of one TOKEN the least");
        // 1 ahead of 2, 3 and 4: no TOKEN, where a NAME or a NUMBER is to stand.
        due.fault("lots 100;", 5, 1);
        due.fault("lots 5;var a 30 0;var b 30 0;var c 100 0;", 35, 1);
        due.fault(HEAD + "goal a=1&a=1&a=1&1=1;", 34, 1);
        // 2 ahead of 4: the 4th COND or EFFECT, by a NAME that is not known.
        due.fault(HEAD + "goal a=1&a=1&a=1&b=1;", 34, 2);
        due.fault(HEAD + "rule 1:a=1&a=1&a=1&b=1->a+1;", 36, 2);
        due.fault(HEAD + "rule 1:->a+1,a+1,a+1,b+1;", 38, 2);
        // 3 ahead of 4: a greatest value above 30, with more than 1000 states.
        due.fault("lots 5;var a 30 0;var b 30 0;var c 31 0;", 35, 3);
        due.fault("lots 5;var a 30 0;var b 30 0;var c 30 0;", 35, 4);
    }

    private static void nameNotKnown() {
        due.sentence("2 a NAME that is not known (of a VAR)");
        due.fault(HEAD + "goal b=1;", 22, 2);
        due.fault(HEAD + "goal a=1&b=1;", 26, 2);
        due.fault(HEAD + "goal a=1&a=1&b=1;", 30, 2);
        due.fault(HEAD + "rule 1:b=1->a+1;", 24, 2);
        due.fault(HEAD + "rule 1:a=1&b=1->a+1;", 28, 2);
        due.fault(HEAD + "rule 1:->b+1;", 26, 2);
        due.fault(HEAD + "rule 1:->a+1,b+1;", 30, 2);
        due.fault(HEAD + "goal goal=1;", 22, 2);
        due.fault("lots 5;goal a=1;", 12, 2);
        due.fault("lots 5;rule 1:a=1->a+1;", 14, 2);
        due.fault("lots 5;rule 1:->a+1;", 16, 2);
        // The words of the language are NAMES as well, once a VAR has them.
        due.taken("lots 5;var lots 1 0;var var 1 0;var rule 1 0;var goal 1 0;rule 1:rule=0->lots+1;goal goal=1;", 16);
        // What an earlier MODEL, or a text with a FAULT, called a VAR is not known.
        ChanceRuns x = Due.with(HEAD + TAIL);
        due.is("an earlier NAME", Due.model(x, "lots 5;var b 3 0;goal a=1;"), -1022);
        due.is("its fault", x.fault(), 2);
        due.is("a NAME of a text with a FAULT", Due.model(x, "lots 5;var c 3 0;goal b=1;"), -1022);
        due.is("its fault", x.fault(), 2);
    }

    private static void nameAlready() {
        due.sentence("2 a NAME .. that is already");
        due.fault(HEAD + "var a 1 0;", 21, 2);
        due.fault("lots 5;var a 1 0;var b 1 0;var a 1 0;", 31, 2);
        due.fault("lots 5;var a 1 0;var b 1 0;var c 1 0;var c 1 0;", 41, 2);
        due.fault("lots 5;var abcdef 1 0;var abcdef 1 0;", 26, 2);
        due.taken("lots 5;var a 1 0;var b 1 0;var c 1 0;var d 1 0;" + TAIL, 16);
        // It may be again in another text.
        ChanceRuns x = Due.with(HEAD + TAIL);
        due.is("the same text again", Due.model(x, HEAD + TAIL), 4);
        due.is("no fault", x.fault(), 0);
    }

    private static void fifthVar() {
        due.sentence("4 too many: the 5th VAR (its word)");
        String four = "lots 5;var a 1 0;var b 1 0;var c 1 0;var d 1 0;";
        due.taken(four + TAIL, 16);
        due.fault(four + "var e 1 0;" + TAIL, 47, 4);
        due.fault(four + " \nvar", 49, 4);
        due.fault(four + "var a 99 99;", 47, 4);
        due.fault(four + "vars", 47, 1);
    }

    private static void thirteenthRule() {
        due.sentence("4 too many: .. 13th RULE (its word)");
        String twelve = HEAD + "rule 1:->a+1;".repeat(12);
        due.taken(twelve + TAIL, 4);
        due.is("RULES", Due.with(twelve + TAIL).count(2), 12);
        due.fault(twelve + "rule 1:->a+1;" + TAIL, 17 + 12 * 13, 4);
        due.fault(twelve + " rule", 18 + 12 * 13, 4);
        due.fault(twelve + "rule 99:->b+1;", 17 + 12 * 13, 4);
    }

    private static void fifthGoal() {
        due.sentence("4 too many: .. 5th GOAL (its word)");
        String four = HEAD + TAIL.repeat(4);
        due.taken(four, 4);
        due.is("GOALS", Due.with(four).count(3), 4);
        due.fault(four + TAIL, 53, 4);
        due.fault(four + "\ngoal", 54, 4);
        due.fault(four + "goal b=1;", 53, 4);
    }

    private static void fourthCond() {
        due.sentence("4th COND of one RULE or GOAL (its NAME)");
        due.taken(HEAD + "goal a=1&a=1&a=1;", 4);
        due.fault(HEAD + "goal a=1&a=1&a=1&a=1;", 34, 4);
        due.fault(HEAD + "goal a=1&a=1&a=1& a", 35, 4);
        due.fault(HEAD + "rule 1:a=1&a=1&a=1&a=1->a+1;", 36, 4);
        due.fault(HEAD + "goal a=1&a=1&a=1&;", 34, 1);
        // Of one: three of each RULE and GOAL.
        due.taken(HEAD + "rule 1:a=1&a=1&a=1->a+1;".repeat(12) + "goal a=1&a=1&a=1;".repeat(4), 4);
    }

    private static void fourthEffect() {
        due.sentence("4th EFFECT (its NAME)");
        due.taken(HEAD + "rule 1:->a+1,a+1,a+1;" + TAIL, 4);
        due.fault(HEAD + "rule 1:->a+1,a+1,a+1,a+1;", 38, 4);
        due.fault(HEAD + "rule 1:->a+1,a+1,a+1,\na", 39, 4);
        due.fault(HEAD + "rule 1:->a+1,a+1,a+1,;", 38, 1);
        due.taken(HEAD + "rule 1:a=1&a=1&a=1->a+1,a+1,a+1;".repeat(12) + TAIL, 4);
    }

    private static void thousandStates() {
        due.sentence("a VAR with which there would be more than 1000 states (at its greatest value)");
        for (int a = 0; a <= 30; a++) {
            for (int b = 0; b <= 30; b++) {
                int two = (a + 1) * (b + 1);
                String ahead = "lots 5;var a " + a + " 0;var b " + b + " 0;var c ";
                int fits = 1000 / two - 1;
                if (fits >= 0 && fits <= 30) {
                    due.taken(ahead + fits + " 0;" + TAIL, two * (fits + 1));
                }
                if (fits < 30) {
                    due.fault(ahead + (fits + 1) + " 0;" + TAIL, ahead.length(), 4);
                }
            }
        }
        due.taken("lots 5;var a 9 0;var b 9 0;var c 9 0;var d 0 0;" + TAIL, 1000);
        due.fault("lots 5;var a 9 0;var b 9 0;var c 9 0;var d 1 0;" + TAIL, 43, 4);
        due.fault("lots 5;var a 9 0;var b 9 0;var c 9 0;var d 30 99;" + TAIL, 43, 4);
    }

    private static void noVarNoGoal() {
        due.sentence("no VAR, no GOAL (at the end)");
        due.fault("lots 5;", 7, 4);
        due.fault("lots 5;\n\n", 9, 4);
        due.fault(HEAD, 17, 4);
        due.fault(HEAD + " ", 18, 4);
        due.fault(HEAD + "rule 1:->a+1;", 30, 4);
        due.fault(HEAD + "rule 1:->a+1;".repeat(12) + "\n", 18 + 12 * 13, 4);
        due.fault("lots 5;.", 7, 1);
    }
}
