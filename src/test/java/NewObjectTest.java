/** Promise 1: all as said at first, and nothing was gone over. */
public final class NewObjectTest {
    private static final Checks CHECKS = new Checks();

    public static void main(String[] args) {
        nothingIsThere();
        ruleAtFirst();
        boundsAtFirst();
        CHECKS.finish("NewObjectTest");
    }

    private static void nothingIsThere() {
        MatchSeeker x = new MatchSeeker();
        CHECKS.due("size()", x.size(), 0);
        CHECKS.due("history(1)", x.history(1), false);
        for (int what = 0; what <= 4; what++) {
            CHECKS.due("about(" + what + ")", x.about(what), 0);
        }
        CHECKS.due("about(5)", x.about(5), -1);
        CHECKS.due("stretch(0, 0)", x.stretch(0, 0), -1);
        CHECKS.due("unlike()", x.unlike(), 0);
        CHECKS.due("at(0, 0, 0)", x.at(0, 0, 0), 0);
        CHECKS.due("count(0)", x.count(0), 0);
        CHECKS.due("go()", x.go(), 0);
    }

    private static void ruleAtFirst() {
        MatchSeeker x = new MatchSeeker();
        Checks.write(x, "abcd1abcdefg2abc3abcd4abcdefg");
        CHECKS.due("three bytes are too few", x.at(13, 0, 0), 0);
        CHECKS.due("four bytes are enough", x.at(17, 0, 0), 4);
        x.go();
        CHECKS.due("the longest is taken, not the nearest", x.stretch(2, 2), 17);
        CHECKS.due("the longest has seven bytes", x.stretch(2, 1), 7);

        MatchSeeker far = new MatchSeeker();
        Checks.write(far, "abcdefgh");
        far.write(0, 1);
        far.again(1, 32748);
        Checks.write(far, "abcdefgh");
        CHECKS.due("all DATA is in the window", far.at(32757, 0, 1), 32757);

        MatchSeeker same = new MatchSeeker();
        same.write(0, 1);
        same.again(1, 32767);
        CHECKS.due("no DATA is longer than the cap", same.at(1, 2, 0), 32767);
    }

    private static void boundsAtFirst() {
        MatchSeeker x = new MatchSeeker();
        Checks.write(x, "abcdabcd");
        CHECKS.due("a MATCH may reach the end of DATA", x.at(4, 0, 0), 4);
        CHECKS.due("no HISTORY: go()", x.go(), 1);
        CHECKS.due("no HISTORY: four LITERALS", x.stretch(0, 0), 4);
        CHECKS.due("a LITERAL 8, a MATCH 16 and the bits of 4", x.about(2), 4 * 8 + 16 + 3);
        x.write(0x6162630000000000L, 3);
        CHECKS.due("LAST is the last place, but LEAST is 4", x.count(8), 0);
        x.write(0x6400000000000000L, 1);
        CHECKS.due("count(8)", x.count(8), 2);
    }
}
