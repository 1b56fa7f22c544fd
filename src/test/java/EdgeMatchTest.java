/** The boundary cases of promises 8 and 9, of MATCHES and of WAYS 0 to 3 under 'Terms': a method for each sentence. */
public final class EdgeMatchTest {
    private static final int MIN = Integer.MIN_VALUE;
    private static final int MAX = Integer.MAX_VALUE;
    private static final int MOST = 32768;
    private static final Checks CHECKS = new Checks();
    private static final Twins TWINS = new Twins(CHECKS);

    public static void main(String[] args) {
        placeBelow();
        atMostTheWindow();
        leastBytesAtLeast();
        runsOnIntoItself();
        beforeEnd();
        atMostCap();
        noneBehindLast();
        wayZero();
        wayOneAtLeastEight();
        wayOneElseAsWayZero();
        wayTwo();
        wayThreeLongerByOne();
        wayThreeNextBehindLast();
        wayThreeNoneHere();
        atWithoutMatch();
        atNoPlace();
        atNoWayOrWhat();
        countFromNoneToAll();
        countNoPlace();
        lookingChangesNothing();
        CHECKS.finish("EdgeMatchTest");
    }

    private static void due(MatchSeeker x, int p, int way, int length, int distance) {
        CHECKS.due("at(" + p + ", " + way + ", 0)", x.at(p, way, 0), length);
        CHECKS.due("at(" + p + ", " + way + ", 1)", x.at(p, way, 1), distance);
    }

    private static void placeBelow() {
        CHECKS.says("(places are 0 .. n - 1) is a place q below p");
        MatchSeeker x = Checks.holding("aaaaaaaa");
        for (int way = 0; way <= 3; way++) {
            due(x, 0, way, 0, 0);
            due(x, 1, way, 7, 1);
            due(x, 4, way, 4, 1);
            due(x, 7, way, 0, 0);
        }
        CHECKS.due("none is below: count(0)", x.count(0), 0);
        CHECKS.due("place 0 is below: count(1)", x.count(1), 1);
        CHECKS.due("all four are below: count(4)", x.count(4), 4);
        MatchSeeker y = Checks.holding("abcd.abcd");
        due(y, 5, 2, 4, 5);
        MatchSeeker least = Checks.holding("aaa");
        least.rule(2, 65536, 3, 131072);
        due(least, 0, 2, 0, 0);
        due(least, 1, 2, 0, 0);
        Checks.write(least, "a");
        due(least, 1, 2, 3, 1);
    }

    private static void atMostTheWindow() {
        CHECKS.says("p - q (its DISTANCE) at most the WINDOW");
        MatchSeeker x = Checks.holding("abcdefgh.abcd.abcdefgh");
        int[][] lengthAndDistance = {{4, 0, 0}, {5, 4, 5}, {6, 4, 5}, {13, 4, 5}, {14, 8, 14}, {15, 8, 14}};
        for (int[] want : lengthAndDistance) {
            x.rule(2, want[0], 4, 131072);
            due(x, 14, 2, want[1], want[2]);
            CHECKS.due("WINDOW " + want[0] + ": count(14)", x.count(14), (want[1] + 3) / 4);
        }
        MatchSeeker y = Checks.holding("aaaaaaaaaaaaaaaa");
        for (int window = 1; window <= 14; window++) {
            y.rule(2, window, 4, 131072);
            CHECKS.due("WINDOW " + window + ": count(10)", y.count(10), Math.min(10, window));
        }
    }

    private static void leastBytesAtLeast() {
        CHECKS.says("at least LEAST bytes from p on, one after the other, are those from q on");
        MatchSeeker x = Checks.holding("abcdefghi1abc2abcd3abcde4abcdef5abcdefg6abcdefgh7");
        int[] places = {10, 14, 19, 25, 32, 40};
        for (int least = 3; least <= 8; least++) {
            x.rule(2, 65536, least, 131072);
            for (int i = 0; i < places.length; i++) {
                int same = 3 + i;
                // The first word, and of those between it and this one the ones that are not too short.
                int words = 1 + same - least;
                String told = "LEAST " + least + ", " + same + " alike: ";
                CHECKS.due(told + "at", x.at(places[i], 2, 0), same >= least ? same : 0);
                CHECKS.due(told + "count", x.count(places[i]), same >= least ? words : 0);
            }
        }
        MatchSeeker gap = Checks.holding("abcdefgh.abcXefgh");
        due(gap, 9, 2, 0, 0);
        due(gap, 13, 2, 4, 9);
    }

    private static void runsOnIntoItself() {
        CHECKS.says("(which may run on into p's)");
        for (int period = 1; period <= 9; period++) {
            MatchSeeker x = Checks.holding("abcdefghi".substring(0, period));
            x.again(period, 5);
            CHECKS.due("period " + period + ": at(" + period + ", 2, 0)", x.at(period, 2, 0), 5 * period);
            CHECKS.due("period " + period + ": at(" + period + ", 2, 1)", x.at(period, 2, 1), period);
        }
    }

    private static void beforeEnd() {
        CHECKS.says("all of p's before END");
        MatchSeeker x = Checks.holding("abcdefgh.abcdefgh");
        for (int b = 0; b <= 6; b++) {
            x.bounds(0, b, 8, 16);
            due(x, 9, 2, b <= 4 ? 8 - b : 0, b <= 4 ? 9 : 0);
            due(x, 9 + 4, 2, b == 0 ? 4 : 0, b == 0 ? 9 : 0);
            CHECKS.due("b " + b + ": count(9)", x.count(9), b <= 4 ? 1 : 0);
        }
    }

    private static void atMostCap() {
        CHECKS.says("its LENGTH is how many are, at most CAP.");
        MatchSeeker x = Checks.holding("abcdefgh.abcdefgh.");
        for (int cap = 4; cap <= 12; cap++) {
            x.rule(2, 65536, 4, cap);
            for (int way = 0; way <= 2; way++) {
                due(x, 9, way, Math.min(cap, 9), 9);
            }
            CHECKS.due("CAP " + cap + ": it is still one: count(9)", x.count(9), 1);
        }
    }

    private static void noneBehindLast() {
        CHECKS.says("None begins behind LAST.");
        for (int a = 0; a <= 12; a++) {
            MatchSeeker x = Checks.holding("abcdefgh.abcdefgh");
            x.bounds(a, 0, 8, 16);
            for (int p = 9; p <= 13; p++) {
                boolean some = p <= 16 - a;
                for (int way = 0; way <= 3; way++) {
                    due(x, p, way, some ? 17 - p : 0, some ? 9 : 0);
                }
                CHECKS.due("a " + a + ": count(" + p + ")", x.count(p), some ? 1 : 0);
            }
        }
    }

    private static void wayZero() {
        CHECKS.says("WAY 0: of all at p the nearest.");
        MatchSeeker x = Checks.holding("abcdefghijkl.abcdefgh.abcd.abcdefghijkl");
        due(x, 27, 0, 4, 5);
        x.rule(2, 65536, 5, 131072);
        due(x, 27, 0, 8, 14);
        x.rule(2, 13, 5, 131072);
        due(x, 27, 0, 0, 0);
    }

    private static void wayOneAtLeastEight() {
        CHECKS.says("the nearest of those whose LENGTH is at least 8, if there is one");
        MatchSeeker x = Checks.holding("abcdefghijkl.abcdefghi.abcdefgh.abcdefg.abcd.abcdefghijkl");
        due(x, 45, 1, 8, 22);
        x.rule(2, 22, 4, 131072);
        due(x, 45, 1, 8, 22);
        x.rule(2, 65536, 8, 131072);
        due(x, 45, 1, 8, 22);
        x.rule(2, 65536, 4, 8);
        due(x, 45, 1, 8, 22);
        x.rule(2, 65536, 4, 131072);
        x.bounds(0, 4, 8, 16);
        due(x, 45, 1, 8, 22);
    }

    private static void wayOneElseAsWayZero() {
        CHECKS.says("if there is one, else as WAY 0.");
        MatchSeeker x = Checks.holding("abcdefghijkl.abcdefghi.abcdefgh.abcdefg.abcd.abcdefghijkl");
        x.rule(2, 21, 4, 131072);
        due(x, 45, 1, 4, 5);
        x.rule(2, 65536, 4, 7);
        due(x, 45, 1, 4, 5);
        x.rule(2, 65536, 4, 131072);
        x.bounds(0, 5, 8, 16);
        due(x, 45, 1, 4, 5);
        x.bounds(12, 0, 8, 16);
        due(x, 45, 1, 0, 0);
        MatchSeeker seven = Checks.holding("abcdefg.abcd.abcdefg");
        due(seven, 13, 1, 4, 5);
        Checks.write(seven, ".abcdefg.");
        due(seven, 21, 1, 8, 8);
        due(seven, 0, 1, 0, 0);
    }

    private static void wayTwo() {
        CHECKS.says("WAY 2: the longest, of several the nearest.");
        MatchSeeker x = Checks.holding("abcdefgh1abcdefgh2abcdefg3abcdefgh");
        due(x, 26, 2, 8, 17);
        x.rule(2, 65536, 4, 8);
        due(x, 26, 2, 8, 17);
        x.rule(2, 65536, 4, 7);
        due(x, 26, 2, 7, 8);
        x.rule(2, 16, 4, 131072);
        due(x, 26, 2, 7, 8);
        x.rule(2, 65536, 4, 131072);
        x.bounds(0, 1, 8, 16);
        due(x, 26, 2, 7, 8);
        MatchSeeker same = Checks.holding("aaaaaaaaaaaa");
        due(same, 6, 2, 6, 1);
    }

    private static void wayThreeLongerByOne() {
        CHECKS.says("the longest at p + 1 is longer than that at p, there is none at p.");
        MatchSeeker longer = Checks.holding("bcdef1abcd2abcdef");
        due(longer, 11, 2, 4, 5);
        due(longer, 12, 2, 5, 12);
        due(longer, 11, 3, 0, 0);
        due(longer, 12, 3, 5, 12);
        MatchSeeker asLong = Checks.holding("bcde1abcd2abcde");
        due(asLong, 10, 2, 4, 5);
        due(asLong, 11, 2, 4, 11);
        due(asLong, 10, 3, 4, 5);
        due(asLong, 11, 3, 4, 11);
        longer.rule(2, 65536, 4, 4);
        due(longer, 11, 3, 4, 5);
        longer.rule(2, 65536, 4, 5);
        due(longer, 11, 3, 0, 0);
        longer.rule(2, 11, 4, 131072);
        due(longer, 11, 3, 4, 5);
        longer.rule(2, 12, 4, 131072);
        due(longer, 11, 3, 0, 0);
        longer.bounds(0, 1, 8, 16);
        due(longer, 11, 3, 4, 5);
    }

    private static void wayThreeNextBehindLast() {
        CHECKS.says("WAY 3: as WAY 2; but when p + 1 is not behind LAST");
        MatchSeeker x = Checks.holding("bcdefg1abcd2abcdefg");
        x.bounds(5, 0, 8, 16);
        due(x, 13, 2, 6, 13);
        due(x, 12, 3, 0, 0);
        x.bounds(6, 0, 8, 16);
        due(x, 13, 2, 0, 0);
        due(x, 12, 3, 4, 5);
        x.bounds(7, 0, 8, 16);
        due(x, 12, 3, 0, 0);
        MatchSeeker longWords = Checks.holding("bcdefghijklm1abcdefghi2abcdefghijklm");
        longWords.bounds(11, 0, 8, 16);
        due(longWords, 23, 2, 9, 10);
        due(longWords, 23, 3, 0, 0);
        longWords.bounds(12, 0, 8, 16);
        due(longWords, 23, 3, 9, 10);
        MatchSeeker full = Checks.alike(MOST);
        due(full, MOST - 4, 3, 4, 1);
        due(full, MOST - 1, 3, 0, 0);
    }

    private static void wayThreeNoneHere() {
        CHECKS.says("WAY 3: as WAY 2");
        MatchSeeker x = Checks.holding("bcdefgh2abcdefgh");
        due(x, 8, 2, 0, 0);
        due(x, 8, 3, 0, 0);
        due(x, 9, 3, 7, 9);
        due(x, 10, 3, 6, 9);
        due(x, 0, 3, 0, 0);
    }

    private static void atWithoutMatch() {
        CHECKS.says("0 when there is none");
        for (State state : new State[] {State.NEW, State.RULED, State.CLEARED}) {
            for (int way = 0; way <= 3; way++) {
                due(state.make(), 0, way, 0, 0);
            }
        }
        MatchSeeker x = Checks.holding("abcdefghijkl");
        for (int p = 0; p <= 11; p++) {
            for (int way = 0; way <= 3; way++) {
                due(x, p, way, 0, 0);
            }
        }
    }

    private static void atNoPlace() {
        CHECKS.says("p is no place");
        for (State state : State.values()) {
            int n = state.bytes();
            for (int p : new int[] {-1, n, n + 1, MOST, 65536, MIN, MIN + 1, MAX, MAX - 1}) {
                for (int way = 0; way <= 3; way++) {
                    int w = way;
                    CHECKS.due(state + ": at(" + p + ", " + w + ", 0)", state.make().at(p, w, 0), 0);
                    CHECKS.due(state + ": at(" + p + ", " + w + ", 1)", state.make().at(p, w, 1), 0);
                }
            }
            TWINS.changesNothing(state, "at(" + n + ", 3, 0)", x -> x.at(n, 3, 0), 0);
            TWINS.changesNothing(state, "at(-1, 3, 0)", x -> x.at(-1, 3, 0), 0);
        }
        MatchSeeker x = Checks.holding("aaaaaaaa");
        due(x, 4, 3, 4, 1);
    }

    private static void atNoWayOrWhat() {
        CHECKS.says("or way or what is none of these.");
        MatchSeeker x = Checks.holding("abcdabcd");
        due(x, 4, 0, 4, 4);
        due(x, 4, 3, 4, 4);
        for (int way : new int[] {-1, 4, 5, MIN, MAX}) {
            due(x, 4, way, 0, 0);
        }
        for (int what : new int[] {-1, 2, 3, MIN, MAX}) {
            for (int way = 0; way <= 3; way++) {
                CHECKS.due("at(4, " + way + ", " + what + ")", x.at(4, way, what), 0);
            }
        }
        x.rule(4, 65536, 4, 131072);
        due(x, 4, 4, 0, 0);
        TWINS.changesNothing(State.GONE_OVER, "at(12, 4, 0)", y -> y.at(12, 4, 0), 0);
        TWINS.changesNothing(State.GONE_OVER, "at(12, 2, 2)", y -> y.at(12, 2, 2), 0);
    }

    private static void countFromNoneToAll() {
        CHECKS.says("How many MATCHES (places q) there are at p");
        MatchSeeker x = Checks.alike(MOST);
        x.rule(2, 65536, 3, 3);
        CHECKS.due("count(0)", x.count(0), 0);
        CHECKS.due("count(1)", x.count(1), 1);
        CHECKS.due("the most there can be: count(32765)", x.count(MOST - 3), MOST - 3);
        CHECKS.due("count(32766)", x.count(MOST - 2), 0);
        CHECKS.due("count(32767)", x.count(MOST - 1), 0);
        x.rule(0, 1, 3, 3);
        CHECKS.due("WINDOW 1: count(32765)", x.count(MOST - 3), 1);
    }

    private static void countNoPlace() {
        CHECKS.says("0 when p is no place.");
        for (State state : State.values()) {
            int n = state.bytes();
            for (int p : new int[] {-1, n, n + 1, MOST, 65536, MIN, MIN + 1, MAX, MAX - 1}) {
                CHECKS.due(state + ": count(" + p + ")", state.make().count(p), 0);
            }
            TWINS.changesNothing(state, "count(" + n + ")", x -> x.count(n), 0);
            TWINS.changesNothing(state, "count(-1)", x -> x.count(-1), 0);
        }
    }

    private static void lookingChangesNothing() {
        CHECKS.says("Nothing is promised beyond the answers and state changes described above");
        for (State state : State.values()) {
            for (int p : new int[] {0, 1, 5, 16, 40}) {
                for (int way = 0; way <= 3; way++) {
                    int w = way;
                    int seen = state.make().at(p, w, 0);
                    TWINS.changesNothing(state, "at(" + p + ", " + w + ", 0)", x -> x.at(p, w, 0), seen);
                }
                TWINS.changesNothing(state, "count(" + p + ")", x -> x.count(p), state.make().count(p));
            }
        }
    }
}
