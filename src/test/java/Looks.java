import java.util.List;
import java.util.function.Function;

/** All that an object answers, in looks each of which has few enough calls for one object. */
final class Looks {
    private static final int NEAR_AN_EDGE = 60;

    static final List<Function<MatchSeeker, String>> ALL = List.of(Looks::found, Looks::goesOver, Looks::goesOverBy0,
            x -> at(x, 0), x -> at(x, 1), x -> at(x, 2), x -> at(x, 3), Looks::counts,
            x -> writes(x) + goesOver(x), x -> writes(x) + at(x, 2), x -> writes(x) + counts(x));

    private Looks() {
    }

    private static String found(MatchSeeker x) {
        StringBuilder seen = new StringBuilder();
        add(seen, x.size());
        add(seen, x.unlike());
        for (int what = -1; what <= 5; what++) {
            add(seen, x.about(what));
        }
        for (int k = -1; k <= NEAR_AN_EDGE; k++) {
            for (int what = 0; what <= 2; what++) {
                add(seen, x.stretch(k, what));
            }
        }
        return seen.toString();
    }

    /** Shows the HISTORY, the WAY and the PRICES too. */
    private static String goesOver(MatchSeeker x) {
        int stretches = x.go();
        return " " + stretches + found(x);
    }

    /** Shows the HISTORY and the PRICES where GOING by cost is refused. */
    private static String goesOverBy0(MatchSeeker x) {
        x.rule(0, 20, 4, 9);
        return goesOver(x);
    }

    /** More DATA shows the RULE where there was none, and what may lie behind the DATA. */
    private static String writes(MatchSeeker x) {
        StringBuilder seen = new StringBuilder();
        for (int i = 0; i < State.TELLING.length(); i++) {
            add(seen, x.write((long) State.TELLING.charAt(i) << 56, 1) ? 1 : 0);
        }
        add(seen, x.again(1, 13) ? 1 : 0);
        return seen.toString();
    }

    private static String at(MatchSeeker x, int way) {
        StringBuilder seen = new StringBuilder();
        int n = x.size();
        for (int p = -1; p <= n; p = next(p, n)) {
            add(seen, x.at(p, way, 0));
            add(seen, x.at(p, way, 1));
        }
        return seen.toString();
    }

    private static String counts(MatchSeeker x) {
        StringBuilder seen = new StringBuilder();
        int n = x.size();
        for (int p = -1; p <= n; p = next(p, n)) {
            add(seen, x.count(p));
        }
        return seen.toString();
    }

    private static int next(int p, int n) {
        return p == NEAR_AN_EDGE ? Math.max(p + 1, n - NEAR_AN_EDGE) : p + 1;
    }

    private static void add(StringBuilder seen, int answer) {
        seen.append(' ').append(answer);
    }
}
