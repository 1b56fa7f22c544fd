import java.util.Random;

/** Promises 1 to 14: runs of calls by chance, the same ones every time, each held against Oracle. */
public final class OracleTest {
    private static final int RUNS = 1000;
    private static final int CALLS = 200;

    private final Checks checks;
    private final Random random;
    private final int mostBytes;
    private final int alphabet;
    private final MatchSeeker x = new MatchSeeker();
    private final Oracle y = new Oracle();
    private String id = "";

    private OracleTest(int run, int mostBytes, Checks checks) {
        this.checks = checks;
        this.mostBytes = mostBytes;
        this.random = new Random(run * 7919L + 17);
        this.alphabet = 1 + random.nextInt(run % 3 == 0 ? 200 : 4);
    }

    public static void main(String[] args) {
        Checks checks = new Checks();
        for (int run = 0; run < RUNS; run++) {
            int mostBytes = run % 50 == 0 ? 6000 : run % 5 == 0 ? 600 : 90;
            OracleTest test = new OracleTest(run, mostBytes, checks);
            for (int call = 0; call < CALLS; call++) {
                test.id = "run " + run + ", call " + call + ": ";
                test.callByChance();
            }
        }
        checks.finish("OracleTest");
    }

    private int from(int low, int high) {
        return low + random.nextInt(Math.max(1, high - low + 1));
    }

    private boolean seldom() {
        return random.nextInt(9) == 0;
    }

    private void callByChance() {
        switch (random.nextInt(20)) {
            case 0: case 1: case 2: case 3: write(); break;
            case 4: case 5: again(); break;
            case 6: history(); break;
            case 7: case 8: rule(); break;
            case 9: bounds(); break;
            case 10: clear(); break;
            case 11: case 12: case 13: at(); break;
            case 14: count(); break;
            case 15: case 16: go(); break;
            case 17: about(); break;
            case 18: stretches(); break;
            default: unlikeAndSize(); break;
        }
    }

    private void write() {
        long eight = 0;
        for (int k = 0; k < 8; k++) {
            eight = eight << 8 | random.nextInt(alphabet) * 37 & 0xFF;
        }
        int n = seldom() ? from(-1, 10) : from(1, 8);
        if (y.size() < mostBytes) {
            checks.due(id + "write(" + eight + ", " + n + ")", x.write(eight, n), y.write(eight, n));
        }
    }

    private void again() {
        int size = y.size();
        int m = from(-1, random.nextBoolean() ? size + 1 : Math.min(size, 12));
        int n = from(-1, m < 1 ? 3 : Math.min(20, (mostBytes - size) / m + 1));
        if ((long) m * n <= mostBytes) {
            checks.due(id + "again(" + m + ", " + n + ")", x.again(m, n), y.again(m, n));
        }
    }

    private void history() {
        int h = seldom() ? from(-1, y.size() + 1) : from(0, y.size() / 2);
        checks.due(id + "history(" + h + ")", x.history(h), y.history(h));
    }

    private void rule() {
        int way = from(seldom() ? -1 : 0, seldom() ? 5 : 4);
        int window = seldom() ? from(65535, 65537) : from(0, random.nextBoolean() ? 20 : 3000);
        int least = from(seldom() ? 2 : 3, seldom() ? 9 : 8);
        int cap = seldom() ? from(131071, 131073) : from(least - 1, random.nextBoolean() ? least + 12 : 99);
        checks.due(id + "rule(" + way + ", " + window + ", " + least + ", " + cap + ")",
                x.rule(way, window, least, cap), y.rule(way, window, least, cap));
    }

    private void bounds() {
        int a = from(seldom() ? -1 : 0, seldom() ? 33 : 6);
        int b = from(seldom() ? -1 : 0, seldom() ? 33 : 6);
        int literal = from(seldom() ? -1 : 0, seldom() ? 256 : 12);
        int match = from(seldom() ? -1 : 0, seldom() ? 256 : 20);
        checks.due(id + "bounds(" + a + ", " + b + ", " + literal + ", " + match + ")",
                x.bounds(a, b, literal, match), y.bounds(a, b, literal, match));
    }

    private void clear() {
        if (seldom()) {
            x.clear();
            y.clear();
        }
    }

    private void at() {
        int p = from(-1, y.size());
        int way = from(-1, 4);
        int what = from(seldom() ? -1 : 0, seldom() ? 2 : 1);
        checks.due(id + "at(" + p + ", " + way + ", " + what + ")", x.at(p, way, what), y.at(p, way, what));
    }

    private void count() {
        int p = from(-1, y.size());
        checks.due(id + "count(" + p + ")", x.count(p), y.count(p));
    }

    private void go() {
        if (y.size() <= 700 || seldom()) {
            checks.due(id + "go()", x.go(), y.go());
        }
    }

    private void about() {
        for (int what = -1; what <= 5; what++) {
            checks.due(id + "about(" + what + ")", x.about(what), y.about(what));
        }
    }

    private void stretches() {
        for (int k = -1; k < 40; k++) {
            for (int what = -1; what <= 3; what++) {
                checks.due(id + "stretch(" + k + ", " + what + ")", x.stretch(k, what), y.stretch(k, what));
            }
        }
    }

    private void unlikeAndSize() {
        checks.due(id + "unlike()", x.unlike(), y.unlike());
        checks.due(id + "size()", x.size(), y.size());
    }
}
