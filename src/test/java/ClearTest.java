/** Promise 2: DATA, HISTORY and what was found go, the RULE stays. */
public final class ClearTest {
    private static final Checks CHECKS = new Checks();

    public static void main(String[] args) {
        MatchSeeker x = new MatchSeeker();
        x.rule(0, 7, 3, 5);
        x.bounds(0, 1, 3, 9);
        Checks.write(x, "abcdefabcdefx");
        x.history(2);
        CHECKS.due("go()", x.go(), 1);
        x.clear();
        CHECKS.due("size()", x.size(), 0);
        CHECKS.due("stretch(0, 0)", x.stretch(0, 0), -1);
        for (int what = 0; what <= 4; what++) {
            CHECKS.due("about(" + what + ")", x.about(what), 0);
        }
        CHECKS.due("unlike()", x.unlike(), 0);
        CHECKS.due("again(1, 1)", x.again(1, 1), false);
        CHECKS.due("history(1)", x.history(1), false);
        CHECKS.due("go() on nothing", x.go(), 0);
        ruleStays(x);
        nothingOldIsFound();
        CHECKS.finish("ClearTest");
    }

    private static void ruleStays(MatchSeeker x) {
        Checks.write(x, "uvwxyzuvwxyzz");
        CHECKS.due("go() after clear()", x.go(), 1);
        CHECKS.due("no HISTORY: LITERALS", x.stretch(0, 0), 6);
        CHECKS.due("the cap stays: LENGTH", x.stretch(0, 1), 5);
        CHECKS.due("DISTANCE", x.stretch(0, 2), 6);
        CHECKS.due("the PRICES stay", x.about(2), 8 * 3 + 9 + 3);
        CHECKS.due("END stays", x.at(7, 2, 0), 5);
        CHECKS.due("LEAST stays", x.at(9, 2, 0), 3);
        Checks.write(x, "uvwuvw");
        CHECKS.due("the window stays", x.count(13), 1);
    }

    /** Bytes that were there before clear() must not be taken for those that are there now. */
    private static void nothingOldIsFound() {
        MatchSeeker x = new MatchSeeker();
        Checks.write(x, "abcdefabcdefabcdef");
        x.go();
        CHECKS.due("at(6, 2, 0) before", x.at(6, 2, 0), 12);
        x.clear();
        Checks.write(x, "abcdefabcdEFabcdef");
        CHECKS.due("at(6, 2, 0) after", x.at(6, 2, 0), 4);
        CHECKS.due("at(12, 2, 1) after", x.at(12, 2, 1), 12);
        CHECKS.due("count(12) after", x.count(12), 2);
    }
}
