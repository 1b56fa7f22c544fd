/** Counts and prints the answers that are not as due. */
final class Checks {
    private static final int MOST_PRINTED = 40;
    private int made = 0;
    private int wrong = 0;

    void due(String call, long got, long want) {
        made++;
        if (got != want) {
            wrong++;
            if (wrong <= MOST_PRINTED) {
                System.out.println(call + " answered " + got + ", due is " + want);
            }
        }
    }

    void due(String call, boolean got, boolean want) {
        due(call, got ? 1 : 0, want ? 1 : 0);
    }

    void finish(String name) {
        System.out.println(name + ": " + made + " answers, " + wrong + " not as due");
        if (wrong != 0 || made == 0) {
            System.exit(1);
        }
    }

    /** Writes a text's characters as bytes. */
    static void write(MatchSeeker x, String text) {
        for (int i = 0; i < text.length(); i++) {
            if (!x.write((long) text.charAt(i) << 56, 1)) {
                throw new IllegalStateException("no room for the test's text");
            }
        }
    }
}
