/** Promises 10 and 11: go and stretch. */
public final class GoTest {
    private static final Checks CHECKS = new Checks();

    public static void main(String[] args) {
        eachWay();
        nothingToGoOver();
        wrongStretches();
        whatWasFoundStays();
        tooManyForWayFour();
        mostStretches();
        CHECKS.finish("GoTest");
    }

    private static void stretches(MatchSeeker x, int[]... want) {
        CHECKS.due("go()", x.go(), want.length);
        told(x, want);
    }

    private static void told(MatchSeeker x, int[]... want) {
        for (int k = 0; k < want.length; k++) {
            for (int what = 0; what < 3; what++) {
                CHECKS.due("stretch(" + k + ", " + what + ")", x.stretch(k, what), want[k][what]);
            }
        }
        CHECKS.due("stretch behind the last", x.stretch(want.length, 0), -1);
    }

    private static void eachWay() {
        MatchSeeker x = new MatchSeeker();
        Checks.write(x, "bcdefghijkl.abcdXY.bcde+abcdefghijkl");
        x.rule(0, 65536, 4, 131072);
        stretches(x, new int[] {19, 4, 19}, new int[] {1, 4, 12}, new int[] {0, 8, 25});
        x.rule(1, 65536, 4, 131072);
        stretches(x, new int[] {19, 4, 19}, new int[] {1, 4, 12}, new int[] {0, 8, 25});
        x.rule(2, 65536, 4, 131072);
        stretches(x, new int[] {19, 4, 19}, new int[] {1, 4, 12}, new int[] {0, 8, 25});
        x.rule(3, 65536, 4, 131072);
        stretches(x, new int[] {19, 4, 19}, new int[] {2, 11, 25});
        x.rule(4, 65536, 4, 131072);
        stretches(x, new int[] {19, 4, 19}, new int[] {2, 11, 25});
        x.history(26);
        x.rule(0, 65536, 3, 131072);
        stretches(x, new int[] {0, 3, 6}, new int[] {0, 7, 25});
        x.rule(1, 65536, 3, 131072);
        stretches(x, new int[] {0, 10, 25});
    }

    private static void nothingToGoOver() {
        MatchSeeker x = new MatchSeeker();
        for (int way = 0; way <= 4; way++) {
            x.rule(way, 65536, 3, 131072);
            stretches(x);
        }
        Checks.write(x, "aaaaaaa");
        x.history(7);
        for (int way = 0; way <= 4; way++) {
            x.rule(way, 65536, 3, 131072);
            stretches(x);
        }
    }

    private static void wrongStretches() {
        MatchSeeker x = new MatchSeeker();
        Checks.write(x, "abcdabcd");
        CHECKS.due("before go()", x.stretch(0, 1), -1);
        CHECKS.due("go()", x.go(), 1);
        for (int k : new int[] {-1, 1, 2, Integer.MIN_VALUE, Integer.MAX_VALUE}) {
            CHECKS.due("stretch(" + k + ", 1)", x.stretch(k, 1), -1);
        }
        for (int what : new int[] {-1, 3, 4, Integer.MIN_VALUE, Integer.MAX_VALUE}) {
            CHECKS.due("stretch(0, " + what + ")", x.stretch(0, what), -1);
        }
    }

    private static void whatWasFoundStays() {
        MatchSeeker x = new MatchSeeker();
        Checks.write(x, "abcdabcd");
        x.go();
        x.rule(4, 1, 8, 8);
        x.bounds(32, 32, 0, 0);
        x.history(8);
        x.again(8, 1500);
        told(x, new int[] {4, 4, 4});
        x.history(0);
        CHECKS.due("go(), refused", x.go(), -1);
        told(x, new int[] {4, 4, 4});
        x.at(20, 2, 0);
        x.count(20);
        told(x, new int[] {4, 4, 4});
    }

    private static void tooManyForWayFour() {
        MatchSeeker x = new MatchSeeker();
        x.rule(4, 65536, 3, 131072);
        x.write(0, 1);
        x.again(1, 8191);
        CHECKS.due("8,192 bytes", x.go(), 1);
        CHECKS.due("LENGTH", x.stretch(0, 1), 8191);
        x.write(0, 1);
        CHECKS.due("8,193 bytes", x.go(), -1);
        CHECKS.due("LENGTH as before", x.stretch(0, 1), 8191);
        CHECKS.due("about(1) as before", x.about(1), 1);
        x.history(1);
        CHECKS.due("8,192 bytes behind the HISTORY", x.go(), 1);
        CHECKS.due("LENGTH", x.stretch(0, 1), 8192);
        x.history(0);
        x.rule(2, 65536, 3, 131072);
        CHECKS.due("another WAY", x.go(), 1);
        CHECKS.due("LENGTH", x.stretch(0, 1), 8192);
    }

    private static void mostStretches() {
        MatchSeeker x = new MatchSeeker();
        x.rule(0, 65536, 3, 3);
        x.write(0, 1);
        x.again(1, 32767);
        x.history(2);
        CHECKS.due("go()", x.go(), 10922);
        CHECKS.due("the last one", x.stretch(10921, 1), 3);
        CHECKS.due("none behind it", x.stretch(10922, 1), -1);
        CHECKS.due("unlike()", x.unlike(), 0);
        x.rule(4, 65536, 3, 3);
        x.history(32768 - 8192);
        CHECKS.due("go() by cost", x.go(), 2730);
        CHECKS.due("two LITERALS in the end", x.about(0), 2);
    }
}
