/** Promise 7: bounds. */
public final class BoundsTest {
    private static final Checks CHECKS = new Checks();

    public static void main(String[] args) {
        edges();
        last();
        end();
        moreBehindEndThanThereAre();
        prices();
        CHECKS.finish("BoundsTest");
    }

    private static void due(MatchSeeker x, int a, int b, int literal, int match, boolean want) {
        String call = "bounds(" + a + ", " + b + ", " + literal + ", " + match + ")";
        CHECKS.due(call, x.bounds(a, b, literal, match), want);
    }

    private static void edges() {
        MatchSeeker x = new MatchSeeker();
        due(x, 0, 0, 0, 0, true);
        due(x, 32, 32, 255, 255, true);
        for (int wrong : new int[] {-1, Integer.MIN_VALUE, Integer.MAX_VALUE, 256}) {
            due(x, wrong, 0, 0, 0, false);
            due(x, 0, wrong, 0, 0, false);
            due(x, 0, 0, wrong, 0, false);
            due(x, 0, 0, 0, wrong, false);
        }
        due(x, 33, 0, 0, 0, false);
        due(x, 0, 33, 0, 0, false);
    }

    private static void last() {
        MatchSeeker x = new MatchSeeker();
        Checks.write(x, "abcdefabcdef");
        due(x, 5, 0, 8, 16, true);
        CHECKS.due("LAST itself", x.at(6, 2, 0), 6);
        CHECKS.due("behind LAST", x.at(7, 2, 0), 0);
        CHECKS.due("behind LAST", x.count(7), 0);
        due(x, 6, 0, 8, 16, true);
        CHECKS.due("LAST is 5", x.at(6, 2, 0), 0);
        CHECKS.due("go()", x.go(), 0);
        CHECKS.due("all are LITERALS", x.about(0), 12);
        due(x, 33, 0, 8, 16, false);
        CHECKS.due("a refusal changes nothing", x.at(6, 2, 0), 0);
        due(x, 32, 0, 8, 16, true);
        CHECKS.due("LAST is below 0", x.go(), 0);
    }

    private static void end() {
        MatchSeeker x = new MatchSeeker();
        Checks.write(x, "abcdefabcdef");
        due(x, 0, 1, 8, 16, true);
        CHECKS.due("one byte less", x.at(6, 2, 0), 5);
        CHECKS.due("just LEAST", x.at(7, 2, 0), 4);
        CHECKS.due("less than LEAST", x.at(8, 2, 0), 0);
        CHECKS.due("less than LEAST", x.count(8), 0);
        CHECKS.due("go()", x.go(), 1);
        CHECKS.due("TAIL", x.about(0), 1);
        due(x, 0, 2, 8, 16, true);
        CHECKS.due("two bytes less", x.count(6), 1);
        due(x, 0, 3, 8, 16, true);
        CHECKS.due("three bytes less", x.count(6), 0);
        Checks.write(x, "ab");
        CHECKS.due("END moves with DATA", x.at(6, 2, 0), 5);
    }

    private static void moreBehindEndThanThereAre() {
        MatchSeeker x = new MatchSeeker();
        due(x, 0, 32, 8, 16, true);
        Checks.write(x, "aaaaaaaaaa");
        CHECKS.due("END is 0", x.count(1), 0);
        CHECKS.due("END is 0", x.at(1, 0, 0), 0);
        CHECKS.due("END is 0", x.go(), 0);
        x.rule(4, 65536, 3, 131072);
        CHECKS.due("END is 0, by cost", x.go(), 0);
        CHECKS.due("END is 0, by cost", x.about(2), 80);
    }

    private static void prices() {
        MatchSeeker x = new MatchSeeker();
        Checks.write(x, "abcdefabcdef");
        due(x, 0, 0, 7, 100, true);
        x.go();
        CHECKS.due("cost", x.about(2), 6 * 7 + 100 + 3);
        due(x, 0, 0, 255, 255, true);
        CHECKS.due("the cost stays as it was found", x.about(2), 6 * 7 + 100 + 3);
        x.go();
        CHECKS.due("cost", x.about(2), 7 * 255 + 3);
        x.rule(4, 65536, 3, 131072);
        due(x, 0, 0, 1, 10, true);
        CHECKS.due("six LITERALS are cheaper than a MATCH", x.go(), 0);
        due(x, 0, 0, 1, 3, true);
        CHECKS.due("as cheap: the MATCH", x.go(), 1);
        due(x, 0, 0, 0, 0, true);
        CHECKS.due("LITERALS for nothing", x.go(), 0);
    }
}
