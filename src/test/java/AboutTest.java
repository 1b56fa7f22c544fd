/** Promise 12: about. */
public final class AboutTest {
    private static final Checks CHECKS = new Checks();

    public static void main(String[] args) {
        MatchSeeker x = new MatchSeeker();
        due(x, 0, 0, 0, 0, 0);
        Checks.write(x, "abcdefg.abcdefg+efg.XY");
        x.rule(2, 65536, 3, 131072);
        x.go();
        due(x, 2, 11, 11 * 8 + 2 * 16 + 4 + 4, 7, 12);
        x.rule(3, 1, 8, 8);
        x.bounds(3, 3, 0, 0);
        x.history(22);
        Checks.write(x, "abcdefg");
        due(x, 2, 11, 11 * 8 + 2 * 16 + 4 + 4, 7, 12);
        x.go();
        due(x, 7, 7, 0, 0, 0);
        x.history(29);
        x.go();
        due(x, 0, 0, 0, 0, 0);
        dearest();
        CHECKS.finish("AboutTest");
    }

    private static void due(MatchSeeker x, int tail, int literals, int cost, int length, int distance) {
        CHECKS.due("about(0)", x.about(0), tail);
        CHECKS.due("about(1)", x.about(1), literals);
        CHECKS.due("about(2)", x.about(2), cost);
        CHECKS.due("about(3)", x.about(3), length);
        CHECKS.due("about(4)", x.about(4), distance);
        for (int what : new int[] {-1, 5, Integer.MIN_VALUE, Integer.MAX_VALUE}) {
            CHECKS.due("about(" + what + ")", x.about(what), -1);
        }
    }

    private static void dearest() {
        MatchSeeker x = new MatchSeeker();
        x.rule(0, 1, 3, 3);
        x.bounds(0, 0, 255, 255);
        x.write(0x0102000000000000L, 2);
        x.again(2, 16383);
        CHECKS.due("go()", x.go(), 0);
        due(x, 32768, 32768, 32768 * 255, 0, 0);

        MatchSeeker far = new MatchSeeker();
        Checks.write(far, "abcd");
        far.write(0, 1);
        far.again(1, 32759);
        Checks.write(far, "abcd");
        far.go();
        due(far, 0, 5, 5 * 8 + 2 * 16 + 1 + 15, 32759, 32764);
    }
}
