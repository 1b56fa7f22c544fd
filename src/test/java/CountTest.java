/** Promise 9: count. */
public final class CountTest {
    private static final Checks CHECKS = new Checks();

    public static void main(String[] args) {
        MatchSeeker x = new MatchSeeker();
        Checks.write(x, "abcd.abc.abcde.abcdx.abcdef");
        CHECKS.due("count(21)", x.count(21), 3);
        CHECKS.due("count(22)", x.count(22), 1);
        CHECKS.due("count(0)", x.count(0), 0);
        CHECKS.due("count(5)", x.count(5), 0);
        x.rule(4, 65536, 3, 3);
        CHECKS.due("three are enough now", x.count(21), 4);
        x.rule(0, 12, 3, 131072);
        CHECKS.due("in the window", x.count(21), 2);
        x.rule(0, 11, 3, 131072);
        CHECKS.due("in a smaller window", x.count(21), 1);
        for (int p : new int[] {-1, 27, 28, Integer.MIN_VALUE, Integer.MAX_VALUE}) {
            CHECKS.due("count(" + p + ")", x.count(p), 0);
        }
        many();
        CHECKS.finish("CountTest");
    }

    private static void many() {
        MatchSeeker x = new MatchSeeker();
        x.write(0, 1);
        x.again(1, 32767);
        CHECKS.due("count(16384)", x.count(16384), 16384);
        CHECKS.due("count(32764)", x.count(32764), 32764);
        CHECKS.due("count(32765)", x.count(32765), 0);
        x.rule(2, 100, 8, 8);
        CHECKS.due("count(16384)", x.count(16384), 100);
        CHECKS.due("count(99)", x.count(99), 99);
        x.bounds(32, 0, 0, 0);
        CHECKS.due("count(32735)", x.count(32735), 100);
        CHECKS.due("count(32736)", x.count(32736), 0);
    }
}
