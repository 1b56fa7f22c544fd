import java.util.ArrayList;
import java.util.Arrays;
import java.util.List;

/** The document said as plainly as can be, without regard to speed: what MatchSeeker is held against. */
final class Oracle {
    private byte[] data = new byte[0];
    private int h = 0;
    private int way = 2;
    private int window = 65536;
    private int least = 4;
    private int cap = 131072;
    private int a = 0;
    private int b = 0;
    private int literal = 8;
    private int match = 16;

    private List<int[]> stretches = new ArrayList<>();
    private int tail = 0;
    private int allLiterals = 0;
    private int cost = 0;
    private int thenBytes = 0;
    private int thenHistory = 0;

    void clear() {
        data = new byte[0];
        h = 0;
        stretches = new ArrayList<>();
        tail = 0;
        allLiterals = 0;
        cost = 0;
        thenBytes = 0;
        thenHistory = 0;
    }

    boolean write(long eight, int n) {
        if (n < 1 || n > 8 || data.length + n > 32768) {
            return false;
        }
        byte[] longer = Arrays.copyOf(data, data.length + n);
        for (int k = 0; k < n; k++) {
            longer[data.length + k] = (byte) (eight >> (56 - 8 * k));
        }
        data = longer;
        return true;
    }

    boolean again(int m, int n) {
        if (m < 1 || m > data.length || n < 0 || data.length + (long) m * n > 32768) {
            return false;
        }
        byte[] longer = Arrays.copyOf(data, data.length + m * n);
        for (int k = 0; k < n; k++) {
            System.arraycopy(data, data.length - m, longer, data.length + k * m, m);
        }
        data = longer;
        return true;
    }

    boolean history(int newH) {
        if (newH < 0 || newH > data.length) {
            return false;
        }
        h = newH;
        return true;
    }

    boolean rule(int newWay, int newWindow, int newLeast, int newCap) {
        boolean asSaid = newWay >= 0 && newWay <= 4 && newWindow >= 1 && newWindow <= 65536
                && newLeast >= 3 && newLeast <= 8 && newCap >= newLeast && newCap <= 131072;
        if (asSaid) {
            way = newWay;
            window = newWindow;
            least = newLeast;
            cap = newCap;
        }
        return asSaid;
    }

    boolean bounds(int newA, int newB, int newLiteral, int newMatch) {
        boolean asSaid = newA >= 0 && newA <= 32 && newB >= 0 && newB <= 32
                && newLiteral >= 0 && newLiteral <= 255 && newMatch >= 0 && newMatch <= 255;
        if (asSaid) {
            a = newA;
            b = newB;
            literal = newLiteral;
            match = newMatch;
        }
        return asSaid;
    }

    /** The MATCHES at p as {LENGTH, DISTANCE}, the nearest first. */
    private List<int[]> matchesAt(int p) {
        List<int[]> all = new ArrayList<>();
        int end = data.length < b ? 0 : data.length - b;
        if (p < 0 || p >= data.length || p > data.length - 1 - a) {
            return all;
        }
        for (int q = p - 1; q >= 0 && p - q <= window; q--) {
            int same = 0;
            while (p + same < end && data[p + same] == data[q + same]) {
                same++;
            }
            if (same >= least) {
                all.add(new int[] {Math.min(same, cap), p - q});
            }
        }
        return all;
    }

    private int[] longestAt(int p) {
        int[] best = {0, 0};
        for (int[] m : matchesAt(p)) {
            if (m[0] > best[0]) {
                best = m;
            }
        }
        return best;
    }

    private int[] matchOf(int p, int ofWay) {
        int[] none = {0, 0};
        List<int[]> all = matchesAt(p);
        if (all.isEmpty()) {
            return none;
        }
        if (ofWay == 0) {
            return all.get(0);
        }
        if (ofWay == 1) {
            for (int[] m : all) {
                if (m[0] >= 8) {
                    return m;
                }
            }
            return all.get(0);
        }
        int[] longest = longestAt(p);
        boolean nextMayBegin = p + 1 <= data.length - 1 - a;
        if (ofWay == 3 && nextMayBegin && longestAt(p + 1)[0] > longest[0]) {
            return none;
        }
        return longest;
    }

    int at(int p, int ofWay, int what) {
        if (p < 0 || p >= data.length || ofWay < 0 || ofWay > 3 || what < 0 || what > 1) {
            return 0;
        }
        return matchOf(p, ofWay)[what];
    }

    int count(int p) {
        return matchesAt(p).size();
    }

    private int price(int[] step) {
        return step[0] == 0 ? literal : match + Integer.toBinaryString(step[1]).length();
    }

    /** WAY 4: for each place from h on the step to take, {0, 0} for a LITERAL. */
    private int[][] cheapest() {
        int[] costs = new int[data.length + 1];
        int[][] steps = new int[data.length][];
        for (int p = data.length - 1; p >= h; p--) {
            int[] best = {0, 0};
            int bestCost = literal + costs[p + 1];
            for (int[] m : matchesAt(p)) {
                for (int length = least; length <= m[0]; length++) {
                    int[] step = {length, m[1]};
                    int c = price(step) + costs[p + length];
                    boolean preferred = length > best[0] || length == best[0] && m[1] < best[1];
                    if (c < bestCost || c == bestCost && preferred) {
                        best = step;
                        bestCost = c;
                    }
                }
            }
            costs[p] = bestCost;
            steps[p] = best;
        }
        return steps;
    }

    int go() {
        if (way == 4 && data.length - h > 8192) {
            return -1;
        }
        int[][] steps = way == 4 ? cheapest() : null;
        stretches = new ArrayList<>();
        tail = 0;
        allLiterals = 0;
        cost = 0;
        thenBytes = data.length;
        thenHistory = h;
        int p = h;
        while (p < data.length) {
            int[] step = way == 4 ? steps[p] : matchOf(p, way);
            cost += price(step);
            if (step[0] == 0) {
                tail++;
                allLiterals++;
                p++;
            } else {
                stretches.add(new int[] {tail, step[0], step[1]});
                tail = 0;
                p += step[0];
            }
        }
        return stretches.size();
    }

    int stretch(int k, int what) {
        return k < 0 || k >= stretches.size() || what < 0 || what > 2 ? -1 : stretches.get(k)[what];
    }

    int about(int what) {
        switch (what) {
            case 0: return tail;
            case 1: return allLiterals;
            case 2: return cost;
            case 3: return greatest(1);
            case 4: return greatest(2);
            default: return -1;
        }
    }

    private int greatest(int what) {
        int greatest = 0;
        for (int[] s : stretches) {
            greatest = Math.max(greatest, s[what]);
        }
        return greatest;
    }

    int unlike() {
        StringBuilder out = new StringBuilder();
        copy(out, thenHistory);
        for (int[] s : stretches) {
            copy(out, s[0]);
            for (int k = 0; k < s[1]; k++) {
                out.append(out.charAt(out.length() - s[2]));
            }
        }
        copy(out, tail);
        int unlike = 0;
        for (int i = 0; i < thenBytes; i++) {
            if (i >= out.length() || i >= data.length || (byte) out.charAt(i) != data[i]) {
                unlike++;
            }
        }
        return unlike;
    }

    private void copy(StringBuilder out, int bytes) {
        for (int k = 0; k < bytes && out.length() < data.length; k++) {
            out.append((char) (data[out.length()] & 0xFF));
        }
    }

    int size() {
        return data.length;
    }
}
