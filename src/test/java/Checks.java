/** Counts and prints the answers that are not as due. */
final class Checks {
    private static final int MOST_PRINTED = 40;
    private int made = 0;
    private int wrong = 0;
    private int madeBefore = 0;
    private String sentence = "";

    /** The words of the document that the answers from here on are held to. */
    void says(String words) {
        closeSentence();
        sentence = words;
        madeBefore = made;
    }

    /** A sentence for which nothing was called has no test. */
    private void closeSentence() {
        if (!sentence.isEmpty() && made == madeBefore) {
            tell("nothing was called");
        }
    }

    private void tell(String what) {
        wrong++;
        if (wrong <= MOST_PRINTED) {
            System.out.println(sentence.isEmpty() ? what : "'" + sentence + "': " + what);
        }
    }

    void due(String call, long got, long want) {
        made++;
        if (got != want) {
            tell(call + " answered " + got + ", due is " + want);
        }
    }

    void due(String call, boolean got, boolean want) {
        due(call, got ? 1 : 0, want ? 1 : 0);
    }

    /** Many answers, with blanks between them. */
    void due(String call, String got, String want) {
        made++;
        if (!got.equals(want)) {
            String[] g = got.trim().split(" ");
            String[] w = want.trim().split(" ");
            int i = 0;
            while (i < g.length && i < w.length && g[i].equals(w[i])) {
                i++;
            }
            tell(call + ", answer " + i + ": " + (i < g.length ? g[i] : "none")
                    + ", due is " + (i < w.length ? w[i] : "none"));
        }
    }

    void finish(String name) {
        closeSentence();
        System.out.println(name + ": " + made + " answers, " + wrong + " not as due");
        if (wrong != 0 || made == 0) {
            System.exit(1);
        }
    }

    /** A new object that holds a text's characters as bytes. */
    static MatchSeeker holding(String text) {
        MatchSeeker x = new MatchSeeker();
        write(x, text);
        return x;
    }

    /** A new object that holds so many bytes, all alike: each place matches all before it. */
    static MatchSeeker alike(int bytes) {
        MatchSeeker x = new MatchSeeker();
        if (bytes > 0 && !(x.write(0, 1) && x.again(1, bytes - 1))) {
            throw new IllegalStateException("no room for the test's bytes");
        }
        return x;
    }

    /** Writes a text's characters as bytes, with as few calls as can be. */
    static void write(MatchSeeker x, String text) {
        for (int from = 0; from < text.length(); from += 8) {
            int n = Math.min(8, text.length() - from);
            long eight = 0;
            for (int k = 0; k < n; k++) {
                eight |= (long) text.charAt(from + k) << 56 - 8 * k;
            }
            if (!x.write(eight, n)) {
                throw new IllegalStateException("no room for the test's text");
            }
        }
    }
}
