/** What the tests share: short ways to make calls, and to tell which answers are not those that are due. */
abstract class Calls {
    static final int NONE = UnaskedLetters.NONE;
    static final int NO_WEIGHT = -1_000_000;
    static final int LEAST = Integer.MIN_VALUE;
    static final int MOST = Integer.MAX_VALUE;

    private static int wrong;
    private static String subject = "";

    /** All that follows is told as being about this. */
    static void about(String what) {
        subject = what + ": ";
    }

    static void fail(String text) {
        wrong++;
        System.out.println(subject + text);
    }

    static void due(String what, int got, int want) {
        if (got != want) {
            fail(what + ": answered " + got + ", due is " + want);
        }
    }

    static void due(String what, boolean got, boolean want) {
        due(what, got ? 1 : 0, want ? 1 : 0);
    }

    /** Ends the program of a test: with exit code 1, if an answer was not the one that was due. */
    static void finish(String test) {
        System.out.println(test + (wrong == 0 ? ": all answers are as due" : ": " + wrong + " answers are not as due"));
        if (wrong != 0) {
            System.exit(1);
        }
    }

    // ---- calls

    /** Three houses, two names in each: 0 and 1, 2 and 3, 4 and 5; name 5 is a trap. */
    static UnaskedLetters net() {
        UnaskedLetters x = new UnaskedLetters();
        for (int i = 0; i < 3; i++) {
            x.house();
        }
        for (int i = 0; i < 6; i++) {
            x.name(i / 2, i == 5);
        }
        return x;
    }

    /** Puts this text on the tape, in place of what is there. */
    static void tape(UnaskedLetters x, String text) {
        x.end(0);
        int[] row = new int[5];
        for (int at = 0; at < text.length(); at += 20) {
            for (int i = 0; i < 5; i++) {
                row[i] = 0;
                for (int k = 0; k < 4; k++) {
                    int here = at + 4 * i + k;
                    row[i] = row[i] << 8 | (here < text.length() ? text.charAt(here) : 0);
                }
            }
            x.feed(row[0], row[1], row[2], row[3], row[4]);
        }
    }

    static int fault(String text, int sort) {
        UnaskedLetters x = new UnaskedLetters();
        tape(x, text);
        return x.fault(sort);
    }

    static int write(UnaskedLetters x, int from, int to, String text) {
        tape(x, text);
        return x.write(from, to, false, 0);
    }

    static int rules(UnaskedLetters x, int of, boolean list, int from, String text) {
        tape(x, text);
        return x.rules(of, list, from);
    }

    static int swap(UnaskedLetters x, String text) {
        tape(x, text);
        return x.swap();
    }

    static String word(UnaskedLetters x, int letter, int reader, int i) {
        StringBuilder text = new StringBuilder();
        for (int k = 0; x.read(letter, reader, i, k) != NONE; k++) {
            text.append((char) x.read(letter, reader, i, k));
        }
        return text.toString();
    }

    static void dueWords(UnaskedLetters x, int letter, int reader, String... words) {
        due("words of letter " + letter + " for " + reader, x.words(letter, reader), words.length);
        for (int i = 0; i < words.length; i++) {
            String got = word(x, letter, reader, i);
            if (!got.equals(words[i])) {
                fail("word " + i + " of letter " + letter + " for " + reader + ": '" + got + "', due is '" + words[i] + "'");
            }
        }
    }

    /** What becomes of a letter in its first minute, if these are the rules of the house that it goes to. */
    static int judged(String rules) {
        UnaskedLetters x = net();
        due("rules " + rules, rules(x, 1, false, 0, rules), 0);
        write(x, 0, 2, "p");
        x.minutes(1);
        return x.letter(0, 0);
    }

    /** 1 if a letter is thrown by these rules. */
    static int thrown(String rules) {
        return judged(rules) == 2 ? 1 : 0;
    }

    static String times(String text, int n) {
        StringBuilder all = new StringBuilder();
        for (int i = 0; i < n; i++) {
            all.append(text);
        }
        return all.toString();
    }
}
