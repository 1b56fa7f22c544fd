/** Promise 6: rule. */
public final class RuleTest {
    private static final Checks CHECKS = new Checks();

    public static void main(String[] args) {
        edges();
        refusalsChangeNothing();
        eachPartCounts();
        CHECKS.finish("RuleTest");
    }

    private static void due(MatchSeeker x, int way, int window, int least, int cap, boolean want) {
        String call = "rule(" + way + ", " + window + ", " + least + ", " + cap + ")";
        CHECKS.due(call, x.rule(way, window, least, cap), want);
    }

    private static void edges() {
        MatchSeeker x = new MatchSeeker();
        int low = Integer.MIN_VALUE;
        int high = Integer.MAX_VALUE;
        for (int way : new int[] {0, 1, 2, 3, 4}) {
            due(x, way, 1, 3, 3, true);
            due(x, way, 65536, 8, 131072, true);
        }
        for (int way : new int[] {-1, 5, low, high}) {
            due(x, way, 1, 3, 3, false);
        }
        for (int window : new int[] {0, -1, 65537, low, high}) {
            due(x, 0, window, 3, 3, false);
        }
        for (int least = 3; least <= 8; least++) {
            due(x, 0, 1, least, least - 1, false);
            due(x, 0, 1, least, least, true);
        }
        for (int least : new int[] {2, 9, 0, -1, low, high}) {
            due(x, 0, 1, least, 100, false);
        }
        for (int cap : new int[] {131073, 2, 0, -1, low, high}) {
            due(x, 0, 1, 3, cap, false);
        }
    }

    private static void refusalsChangeNothing() {
        MatchSeeker x = new MatchSeeker();
        Checks.write(x, "abcdefgabcdefgabcd");
        due(x, 0, 7, 4, 6, true);
        due(x, 5, 1, 3, 3, false);
        due(x, 2, 0, 3, 3, false);
        due(x, 2, 1, 9, 9, false);
        due(x, 2, 1, 5, 4, false);
        CHECKS.due("at(7, 2, 0)", x.at(7, 2, 0), 6);
        CHECKS.due("count(14)", x.count(14), 1);
        CHECKS.due("at(14, 0, 0)", x.at(14, 0, 0), 4);
    }

    private static void eachPartCounts() {
        MatchSeeker x = new MatchSeeker();
        Checks.write(x, "abcdefgh1abcd2abcdefgh");
        due(x, 0, 65536, 3, 131072, true);
        x.go();
        CHECKS.due("WAY 0 takes the nearest", x.stretch(1, 2), 5);
        due(x, 2, 65536, 3, 131072, true);
        x.go();
        CHECKS.due("WAY 2 takes the longest", x.stretch(1, 2), 14);
        due(x, 2, 13, 3, 131072, true);
        CHECKS.due("the window just too small", x.at(14, 2, 1), 5);
        due(x, 2, 14, 3, 131072, true);
        CHECKS.due("the window just large enough", x.at(14, 2, 1), 14);
        due(x, 2, 65536, 5, 131072, true);
        CHECKS.due("four are too few", x.at(9, 2, 0), 0);
        due(x, 2, 65536, 4, 131072, true);
        CHECKS.due("four are enough", x.at(9, 2, 0), 4);
        due(x, 2, 65536, 4, 4, true);
        CHECKS.due("capped, so the nearest of two as long", x.at(14, 2, 1), 5);
        CHECKS.due("capped", x.at(14, 2, 0), 4);
        due(x, 2, 65536, 8, 8, true);
        CHECKS.due("eight at least", x.at(14, 2, 0), 8);
        CHECKS.due("eight at least", x.at(15, 2, 0), 0);
    }
}
