import java.util.ArrayList;
import java.util.List;
import java.util.Random;

/** Promise 10, WAY 4: short DATA, and every row of LITERALS and MATCHES that covers it tried in turn. */
public final class CostTest {
    private static final int RUNS = 6000;
    private static final Checks CHECKS = new Checks();

    private final byte[] data;
    private final int window;
    private final int least;
    private final int cap;
    private final int last;
    private final int end;
    private final int literal;
    private final int match;

    private List<int[]> best = null;
    private int bestCost = 0;

    private CostTest(byte[] data, int[] rule) {
        this.data = data;
        this.window = rule[0];
        this.least = rule[1];
        this.cap = rule[2];
        this.last = data.length - 1 - rule[3];
        this.end = Math.max(0, data.length - rule[4]);
        this.literal = rule[5];
        this.match = rule[6];
    }

    public static void main(String[] args) {
        ties();
        Random random = new Random(4);
        for (int run = 0; run < RUNS; run++) {
            byte[] data = new byte[1 + random.nextInt(14)];
            int letters = 1 + random.nextInt(3);
            for (int i = 0; i < data.length; i++) {
                data[i] = (byte) random.nextInt(letters);
            }
            int least = 3 + random.nextInt(3);
            int[] rule = {1 + random.nextInt(16), least, least + random.nextInt(9), random.nextInt(4),
                    random.nextInt(4), random.nextInt(6), random.nextInt(14)};
            tryRun(run, data, rule, random.nextInt(1 + data.length / 2));
        }
        CHECKS.finish("CostTest");
    }

    /** Told by hand: the MATCH before the LITERAL, the longer before the shorter, the nearer of two as long. */
    private static void ties() {
        MatchSeeker x = new MatchSeeker();
        x.rule(4, 65536, 3, 131072);
        x.bounds(0, 0, 4, 10);
        Checks.write(x, "abc.abc");
        CHECKS.due("13 for the MATCH, 12 for three LITERALS", x.go(), 0);
        x.bounds(0, 0, 4, 9);
        CHECKS.due("12 for both: the MATCH", x.go(), 1);
        CHECKS.due("cost", x.about(2), 28);

        MatchSeeker y = new MatchSeeker();
        y.rule(4, 65536, 3, 4);
        Checks.write(y, "aaaaaaaa");
        CHECKS.due("seven bytes by two MATCHES", y.go(), 2);
        CHECKS.due("the longer one first", y.stretch(0, 1), 4);
        CHECKS.due("the shorter one behind", y.stretch(1, 1), 3);

        MatchSeeker z = new MatchSeeker();
        z.rule(4, 65536, 3, 131072);
        z.bounds(0, 0, 200, 0);
        Checks.write(z, "abcd.abcdabcd");
        z.history(9);
        CHECKS.due("4 and 9 before", z.go(), 1);
        CHECKS.due("the nearer", z.stretch(0, 2), 4);
    }

    private static void tryRun(int run, byte[] data, int[] rule, int h) {
        CostTest test = new CostTest(data, rule);
        test.coverFrom(h, new ArrayList<>(), 0);
        MatchSeeker x = new MatchSeeker();
        x.rule(4, rule[0], rule[1], rule[2]);
        x.bounds(rule[3], rule[4], rule[5], rule[6]);
        for (byte one : data) {
            x.write((long) one << 56, 1);
        }
        x.history(h);
        List<int[]> matches = new ArrayList<>();
        for (int[] step : test.best) {
            if (step[0] > 0) {
                matches.add(step);
            }
        }
        CHECKS.due(run + ": go()", x.go(), matches.size());
        CHECKS.due(run + ": about(2)", x.about(2), test.bestCost);
        int place = h;
        for (int k = 0; k < matches.size(); k++) {
            CHECKS.due(run + ": stretch(" + k + ", 1)", x.stretch(k, 1), matches.get(k)[0]);
            CHECKS.due(run + ": stretch(" + k + ", 2)", x.stretch(k, 2), matches.get(k)[1]);
            place += x.stretch(k, 0);
            CHECKS.due(run + ": where stretch " + k + " begins", place, matches.get(k)[2]);
            place += x.stretch(k, 1);
        }
    }

    private void coverFrom(int p, List<int[]> row, int cost) {
        if (p == data.length) {
            if (best == null || cost < bestCost || cost == bestCost && preferred(row)) {
                best = new ArrayList<>(row);
                bestCost = cost;
            }
            return;
        }
        take(p, row, new int[] {0, 0, p}, cost + literal);
        for (int q = p - 1; q >= 0 && p - q <= window && p <= last; q--) {
            int same = 0;
            while (p + same < end && same < cap && data[p + same] == data[q + same]) {
                same++;
                if (same >= least) {
                    int bits = Integer.toBinaryString(p - q).length();
                    take(p, row, new int[] {same, p - q, p}, cost + match + bits);
                }
            }
        }
    }

    private void take(int p, List<int[]> row, int[] step, int cost) {
        row.add(step);
        coverFrom(p + Math.max(1, step[0]), row, cost);
        row.remove(row.size() - 1);
    }

    private boolean preferred(List<int[]> row) {
        for (int k = 0; k < Math.min(row.size(), best.size()); k++) {
            int[] mine = row.get(k);
            int[] other = best.get(k);
            if (mine[0] != other[0]) {
                return mine[0] > other[0];
            }
            if (mine[1] != other[1]) {
                return mine[1] < other[1];
            }
        }
        return false;
    }
}
