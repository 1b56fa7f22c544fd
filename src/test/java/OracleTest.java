import java.util.Random;

/** Promises 1 to 14: runs of as many calls as are promised, by chance but always the same, held against Oracle. */
public final class OracleTest {
    private static final int RUNS = 1000;
    private static final int CALLS = 512;

    private final Checks checks;
    private final Random random;
    private final int mostBytes;
    private final int alphabet;
    private final MatchSeeker x = new MatchSeeker();
    private final Oracle y = new Oracle();
    private final int run;
    private int calls = 0;

    private OracleTest(int run, int mostBytes, Checks checks) {
        this.run = run;
        this.checks = checks;
        this.mostBytes = mostBytes;
        this.random = new Random(run * 7919L + 17);
        this.alphabet = 1 + random.nextInt(run % 3 == 0 ? 200 : 4);
    }

    public static void main(String[] args) {
        Checks checks = new Checks();
        for (int run = 0; run < RUNS; run++) {
            int mostBytes = run % 50 == 0 ? 6000 : run % 5 == 0 ? 600 : 90;
            OracleTest test = new OracleTest(run, mostBytes, checks);
            while (test.calls < CALLS) {
                test.callByChance();
            }
        }
        checks.finish("OracleTest");
    }

    private void due(String call, long got, long want) {
        calls++;
        checks.due("run " + run + ", call " + calls + ": " + call, got, want);
    }

    private void due(String call, boolean got, boolean want) {
        due(call, got ? 1 : 0, want ? 1 : 0);
    }

    private int from(int low, int high) {
        return low + random.nextInt(Math.max(1, high - low + 1));
    }

    private boolean seldom() {
        return random.nextInt(9) == 0;
    }

    private void callByChance() {
        switch (random.nextInt(20)) {
            case 0: case 1: case 2: case 3: write(); break;
            case 4: case 5: again(); break;
            case 6: history(); break;
            case 7: case 8: rule(); break;
            case 9: bounds(); break;
            case 10: clear(); break;
            case 11: case 12: case 13: at(); break;
            case 14: count(); break;
            case 15: case 16: go(); break;
            case 17: about(); break;
            case 18: stretches(); break;
            default: unlikeOrSize(); break;
        }
    }

    private void write() {
        long eight = 0;
        for (int k = 0; k < 8; k++) {
            eight = eight << 8 | random.nextInt(alphabet) * 37 & 0xFF;
        }
        int n = seldom() ? from(-1, 10) : from(1, 8);
        if (y.size() < mostBytes) {
            due("write(" + eight + ", " + n + ")", x.write(eight, n), y.write(eight, n));
        }
    }

    private void again() {
        int size = y.size();
        int m = from(-1, random.nextBoolean() ? size + 1 : Math.min(size, 12));
        int n = from(-1, m < 1 ? 3 : Math.min(20, (mostBytes - size) / m + 1));
        if ((long) m * n <= mostBytes) {
            due("again(" + m + ", " + n + ")", x.again(m, n), y.again(m, n));
        }
    }

    private void history() {
        int h = seldom() ? from(-1, y.size() + 1) : from(0, y.size() / 2);
        due("history(" + h + ")", x.history(h), y.history(h));
    }

    private void rule() {
        int way = from(seldom() ? -1 : 0, seldom() ? 5 : 4);
        int window = seldom() ? from(65535, 65537) : from(0, random.nextBoolean() ? 20 : 3000);
        int least = from(seldom() ? 2 : 3, seldom() ? 9 : 8);
        int cap = seldom() ? from(131071, 131073) : from(least - 1, random.nextBoolean() ? least + 12 : 99);
        due("rule(" + way + ", " + window + ", " + least + ", " + cap + ")",
                x.rule(way, window, least, cap), y.rule(way, window, least, cap));
    }

    private void bounds() {
        int a = from(seldom() ? -1 : 0, seldom() ? 33 : 6);
        int b = from(seldom() ? -1 : 0, seldom() ? 33 : 6);
        int literal = from(seldom() ? -1 : 0, seldom() ? 256 : 12);
        int match = from(seldom() ? -1 : 0, seldom() ? 256 : 20);
        due("bounds(" + a + ", " + b + ", " + literal + ", " + match + ")",
                x.bounds(a, b, literal, match), y.bounds(a, b, literal, match));
    }

    private void clear() {
        if (seldom()) {
            calls++;
            x.clear();
            y.clear();
        }
    }

    private void at() {
        int p = from(-1, y.size());
        int way = from(-1, 4);
        int what = from(seldom() ? -1 : 0, seldom() ? 2 : 1);
        due("at(" + p + ", " + way + ", " + what + ")", x.at(p, way, what), y.at(p, way, what));
    }

    private void count() {
        int p = from(-1, y.size());
        due("count(" + p + ")", x.count(p), y.count(p));
    }

    private void go() {
        if (y.size() <= 700 || seldom()) {
            due("go()", x.go(), y.go());
        }
    }

    private void about() {
        for (int what = -1; what <= 5 && calls < CALLS; what++) {
            due("about(" + what + ")", x.about(what), y.about(what));
        }
    }

    private void stretches() {
        stretch(-1);
        int k = 0;
        while (k < 12 && y.stretch(k, 0) >= 0) {
            stretch(k);
            k++;
        }
        stretch(k);
        stretch(from(0, y.size() / 3));
    }

    private void stretch(int k) {
        for (int what = seldom() ? -1 : 0; what <= (seldom() ? 3 : 2) && calls < CALLS; what++) {
            due("stretch(" + k + ", " + what + ")", x.stretch(k, what), y.stretch(k, what));
        }
    }

    private void unlikeOrSize() {
        if (random.nextBoolean()) {
            due("unlike()", x.unlike(), y.unlike());
        } else {
            due("size()", x.size(), y.size());
        }
    }
}
