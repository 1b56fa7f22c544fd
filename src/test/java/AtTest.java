/** Promise 8: at, and with it what a MATCH is and what the WAYS 0 to 3 have. */
public final class AtTest {
    private static final Checks CHECKS = new Checks();

    public static void main(String[] args) {
        nearestLongAndLongest();
        capBelowEight();
        overlap();
        notWhenTheNextIsLonger();
        lastAndTheNext();
        wrongInputs();
        CHECKS.finish("AtTest");
    }

    private static void due(MatchSeeker x, int p, int way, int length, int distance) {
        CHECKS.due("at(" + p + ", " + way + ", 0)", x.at(p, way, 0), length);
        CHECKS.due("at(" + p + ", " + way + ", 1)", x.at(p, way, 1), distance);
    }

    private static void nearestLongAndLongest() {
        MatchSeeker x = new MatchSeeker();
        Checks.write(x, "abcdefghij.abcdefghi.abcdefgh.abcdefg.abcd.abcdefghijk");
        due(x, 43, 0, 4, 5);
        due(x, 43, 1, 8, 22);
        due(x, 43, 2, 10, 43);
        due(x, 43, 3, 10, 43);
        due(x, 30, 1, 7, 9);
        due(x, 38, 0, 4, 8);
        due(x, 38, 1, 4, 8);
        due(x, 38, 2, 4, 8);
        due(x, 53, 2, 0, 0);
        due(x, 0, 2, 0, 0);
        x.rule(0, 22, 4, 131072);
        due(x, 43, 2, 8, 22);
        x.rule(0, 21, 4, 131072);
        due(x, 43, 2, 7, 13);
        due(x, 43, 1, 4, 5);
        x.rule(0, 4, 4, 131072);
        due(x, 43, 0, 0, 0);
    }

    private static void capBelowEight() {
        MatchSeeker x = new MatchSeeker();
        Checks.write(x, "abcdefghij.abcdef.abcdefghij");
        x.rule(0, 65536, 3, 7);
        due(x, 18, 1, 6, 7);
        due(x, 18, 2, 7, 18);
        x.rule(0, 65536, 3, 8);
        due(x, 18, 1, 8, 18);
    }

    private static void overlap() {
        MatchSeeker x = new MatchSeeker();
        Checks.write(x, "aaaaaaaaaa");
        due(x, 1, 0, 9, 1);
        due(x, 6, 2, 4, 1);
        due(x, 7, 2, 0, 0);
        Checks.write(x, "babababab");
        due(x, 12, 2, 7, 2);
        due(x, 11, 2, 8, 2);
    }

    private static void notWhenTheNextIsLonger() {
        MatchSeeker x = new MatchSeeker();
        Checks.write(x, "bcdefgh.abcd.abcdefg");
        due(x, 13, 2, 4, 5);
        due(x, 13, 3, 0, 0);
        due(x, 14, 3, 6, 14);
        MatchSeeker same = new MatchSeeker();
        Checks.write(same, "bcde.abcd.abcde");
        due(same, 10, 3, 4, 5);
        due(same, 11, 3, 4, 11);
        x.rule(0, 65536, 4, 4);
        due(x, 13, 3, 4, 5);
    }

    private static void lastAndTheNext() {
        MatchSeeker x = new MatchSeeker();
        Checks.write(x, "bcdefgh.abcd.abcdefg");
        x.bounds(5, 0, 8, 16);
        due(x, 14, 2, 6, 14);
        due(x, 13, 3, 0, 0);
        x.bounds(6, 0, 8, 16);
        due(x, 14, 2, 0, 0);
        due(x, 13, 3, 4, 5);
        x.bounds(5, 2, 8, 16);
        due(x, 14, 2, 4, 14);
        due(x, 13, 3, 4, 5);
    }

    private static void wrongInputs() {
        MatchSeeker x = new MatchSeeker();
        Checks.write(x, "abcdabcd");
        for (int p : new int[] {-1, 8, 9, Integer.MIN_VALUE, Integer.MAX_VALUE}) {
            for (int way = 0; way <= 3; way++) {
                due(x, p, way, 0, 0);
            }
        }
        for (int way : new int[] {-1, 4, 5, Integer.MIN_VALUE, Integer.MAX_VALUE}) {
            due(x, 4, way, 0, 0);
        }
        for (int what : new int[] {-1, 2, 3, Integer.MIN_VALUE, Integer.MAX_VALUE}) {
            CHECKS.due("at(4, 2, " + what + ")", x.at(4, 2, what), 0);
        }
        x.rule(4, 65536, 4, 131072);
        due(x, 4, 2, 4, 4);
        due(x, 4, 4, 0, 0);
    }
}
