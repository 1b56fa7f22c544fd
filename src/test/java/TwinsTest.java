import java.util.function.Consumer;

/** The tests of refused calls would see a change: of each part of an object, alone and mostly by one, in each state. */
public final class TwinsTest {
    private static final Checks CHECKS = new Checks();
    private static final Twins TWINS = new Twins(CHECKS);

    public static void main(String[] args) {
        for (State state : State.values()) {
            switch (state) {
                case NEW:
                    rule(state, 2, 65536, 4, 131072);
                    bounds(state, 0, 0, 8, 16);
                    break;
                case BY_COST:
                case FULL_BY_COST:
                    rule(state, 4, 20, 4, 9);
                    bounds(state, 8, 1, 7, 15);
                    break;
                default:
                    rule(state, 2, 20, 4, 9);
                    bounds(state, 8, 1, 7, 15);
                    break;
            }
            dataAndHistory(state);
        }
        shows(State.GONE_OVER, "go() after more DATA", MatchSeeker::go);
        CHECKS.finish("TwinsTest");
    }

    private static void shows(State state, String change, Consumer<MatchSeeker> changing) {
        TWINS.differ(state + ", " + change, x -> {
            state.bring(x);
            changing.accept(x);
        }, state::bring);
    }

    private static void rule(State state, int way, int window, int least, int cap) {
        for (int other = 0; other <= 4; other++) {
            int w = other;
            if (w != way) {
                shows(state, "way " + w, x -> x.rule(w, window, least, cap));
            }
        }
        for (int other : window == 20 ? new int[] {1, 19, 21, 65536} : new int[] {1, 19}) {
            shows(state, "window " + other, x -> x.rule(way, other, least, cap));
        }
        for (int other : new int[] {3, 5, 8}) {
            shows(state, "least " + other, x -> x.rule(way, window, other, cap));
        }
        for (int other : cap == 9 ? new int[] {4, 8, 10, 131072} : new int[] {4, 9}) {
            shows(state, "cap " + other, x -> x.rule(way, window, least, other));
        }
    }

    private static void bounds(State state, int a, int b, int literal, int match) {
        for (int other : a == 8 ? new int[] {0, 7, 9, 32} : new int[] {8, 32}) {
            shows(state, "a " + other, x -> x.bounds(other, b, literal, match));
        }
        for (int other : b == 1 ? new int[] {0, 2, 32} : new int[] {1, 32}) {
            shows(state, "b " + other, x -> x.bounds(a, other, literal, match));
        }
        for (int other : new int[] {0, literal - 1, literal + 1, 255}) {
            shows(state, "literal " + other, x -> x.bounds(a, b, other, match));
        }
        for (int other : new int[] {0, match - 1, match + 1, 255}) {
            shows(state, "match " + other, x -> x.bounds(a, b, literal, other));
        }
    }

    private static void dataAndHistory(State state) {
        int n = state.bytes();
        if (n > 0) {
            for (int h : new int[] {0, 1, 4, n - 1, n}) {
                shows(state, "history(" + h + ")", x -> x.history(h));
            }
            shows(state, "clear()", MatchSeeker::clear);
        }
        if (n < 32768) {
            shows(state, "write(0, 1)", x -> x.write(0, 1));
        }
    }
}
