/** The boundary cases of the promises 10 to 13, and of GOING and WAY 4 under 'Terms': a method for each sentence. */
public final class EdgeGoingTest {
    private static final int MIN = Integer.MIN_VALUE;
    private static final int MAX = Integer.MAX_VALUE;
    private static final int MOST = 32768;
    private static final int MOST_BY_COST = 8192;
    private static final Checks CHECKS = new Checks();
    private static final Twins TWINS = new Twins(CHECKS);

    public static void main(String[] args) {
        goingFromHistoryToTheEnd();
        goingOverNothing();
        literalsAlone();
        goingOnBehindTheMatch();
        goingUpToLast();
        smallerButLeastAtLeast();
        bitsOfDistances();
        justSo();
        costIsLeast();
        matchNotLiteral();
        longerOfTwo();
        nearerOfTwo();
        noneButTheLatest();
        stretchesAndTail();
        goByCostRefused();
        goByCostAtMost();
        goOtherwiseNotRefused();
        stretchNoneSuch();
        whatWasFoundStays();
        aboutEach();
        aboutAnother();
        aboutNothingGoneOver();
        unlikeNothingGoneOver();
        unlikeAsHistoryWasThen();
        lookingChangesNothing();
        CHECKS.finish("EdgeGoingTest");
    }

    /** Goes; the rest is the STRETCHES' LITERALS, LENGTHS and DISTANCES in their order, and the TAIL. */
    private static void goes(MatchSeeker x, int... due) {
        CHECKS.due("go()", x.go(), due.length / 3);
        found(x, due);
    }

    private static void found(MatchSeeker x, int... due) {
        int stretches = due.length / 3;
        for (int i = 0; i < 3 * stretches; i++) {
            CHECKS.due("stretch(" + i / 3 + ", " + i % 3 + ")", x.stretch(i / 3, i % 3), due[i]);
        }
        CHECKS.due("stretch(" + stretches + ", 0)", x.stretch(stretches, 0), -1);
        CHECKS.due("about(0)", x.about(0), due[3 * stretches]);
        CHECKS.due("unlike()", x.unlike(), 0);
    }

    private static void goingFromHistoryToTheEnd() {
        CHECKS.says("GOING over the DATA from place h on, to place n");
        for (int way = 0; way <= 4; way++) {
            MatchSeeker x = Checks.holding("abcdefgabcdefg");
            x.rule(way, 65536, 4, 131072);
            goes(x, 7, 7, 7, 0);
            x.history(6);
            goes(x, 1, 7, 7, 0);
            x.history(7);
            goes(x, 0, 7, 7, 0);
            x.history(8);
            goes(x, 0, 6, 7, 0);
            x.history(10);
            goes(x, 0, 4, 7, 0);
            x.history(11);
            goes(x, 3);
            x.history(13);
            goes(x, 1);
            x.history(14);
            goes(x, 0);
        }
    }

    private static void goingOverNothing() {
        CHECKS.says("`int go()`: Goes over the DATA: how many STRETCHES there are.");
        for (int way = 0; way <= 4; way++) {
            MatchSeeker none = new MatchSeeker();
            none.rule(way, 65536, 3, 131072);
            goes(none, 0);
            MatchSeeker full = Checks.alike(MOST);
            full.rule(way, 65536, 3, 131072);
            full.history(MOST);
            goes(full, 0);
            full.history(MOST - 1);
            goes(full, 1);
            full.history(MOST - 3);
            goes(full, 0, 3, 1, 0);
        }
        MatchSeeker most = Checks.alike(MOST);
        most.rule(0, 65536, 3, 3);
        most.history(2);
        CHECKS.due("the most there can be", most.go(), 10922);
        CHECKS.due("the last of them", most.stretch(10921, 1), 3);
        CHECKS.due("none behind it", most.stretch(10922, 1), -1);
    }

    private static void literalsAlone() {
        CHECKS.says("where there is no MATCH, the byte is a LITERAL, and it goes on one further");
        for (int way = 0; way <= 4; way++) {
            MatchSeeker x = Checks.holding("a");
            x.rule(way, 65536, 3, 131072);
            goes(x, 1);
            Checks.write(x, "bc.abx");
            goes(x, 7);
            CHECKS.due("about(1)", x.about(1), 7);
            x.bounds(32, 0, 8, 16);
            Checks.write(x, "abc.");
            goes(x, 11);
        }
    }

    private static void goingOnBehindTheMatch() {
        CHECKS.says("else it goes on behind the MATCH.");
        MatchSeeker x = Checks.holding("abcdefgh.abcd");
        x.again(4, 1);
        goes(x, 9, 4, 9, 0, 4, 4, 0);
        x.rule(2, 65536, 4, 4);
        Checks.write(x, "abcdefgh");
        goes(x, 9, 4, 9, 0, 4, 4, 0, 4, 4, 0, 4, 17, 0);
    }

    private static void goingUpToLast() {
        CHECKS.says("None begins behind LAST.");
        for (int way = 0; way <= 4; way++) {
            for (int a = 3; a <= 32; a++) {
                MatchSeeker x = Checks.alike(64);
                x.rule(way, 65536, 4, 131072);
                x.bounds(a, 0, 8, 1);
                x.history(63 - a);
                goes(x, 0, a + 1, 1, 0);
                x.history(64 - a);
                goes(x, a);
            }
        }
    }

    private static void smallerButLeastAtLeast() {
        CHECKS.says("a MATCH may also be taken with any smaller LENGTH, but LEAST at least.");
        MatchSeeker x = Checks.holding("aaaaaaaaaaaa");
        x.bounds(0, 0, 200, 16);
        x.rule(4, 65536, 4, 10);
        goes(x, 1, 7, 1, 0, 4, 1, 0);
        x.rule(4, 65536, 5, 10);
        goes(x, 1, 6, 1, 0, 5, 1, 0);
        x.rule(4, 65536, 6, 10);
        goes(x, 1, 10, 1, 1);
        x.rule(4, 65536, 3, 10);
        goes(x, 1, 8, 1, 0, 3, 1, 0);
        x.rule(4, 65536, 3, 131072);
        goes(x, 1, 11, 1, 0);
    }

    private static void bitsOfDistances() {
        CHECKS.says("as many as its DISTANCE has bits (1 has 1).");
        int bits = 0;
        for (int power = 1; power <= 16384; power *= 2) {
            bits++;
            costOfOneMatch(power, bits);
            costOfOneMatch(Math.min(2 * power - 1, MOST - 8), bits);
        }
    }

    private static void costOfOneMatch(int distance, int bits) {
        MatchSeeker x = saidAgainFrom(distance);
        for (int way : new int[] {2, 4}) {
            x.rule(way, 65536, 4, 131072);
            x.bounds(0, 0, 255, 100);
            goes(x, 0, 8, distance, 0);
            CHECKS.due("DISTANCE " + distance + ": about(2)", x.about(2), 100 + bits);
        }
        x.bounds(0, 0, 8, 64 - bits);
        goes(x, 0, 8, distance, 0);
        CHECKS.due("DISTANCE " + distance + ", as cheap as eight LITERALS: about(2)", x.about(2), 64);
        x.bounds(0, 0, 8, 65 - bits);
        goes(x, 8);
        CHECKS.due("DISTANCE " + distance + ", dearer than eight LITERALS: about(2)", x.about(2), 64);
    }

    /** Behind the HISTORY stand eight bytes that stand so far before too, and nowhere else. */
    private static MatchSeeker saidAgainFrom(int distance) {
        String words = distance < 8 ? "abcdefg".substring(0, distance).repeat(9) : "abcdefgh";
        MatchSeeker x = Checks.holding(words.substring(0, Math.min(distance, 8)));
        if (distance > 8) {
            x.write(0, 1);
            x.again(1, distance - 9);
        }
        Checks.write(x, words.substring(0, 8));
        x.history(distance);
        return x;
    }

    private static void justSo() {
        CHECKS.says("that cover the DATA from place h to n, just so");
        for (int h = 0; h <= 12; h++) {
            MatchSeeker x = Checks.holding("abcabcabcabc");
            x.rule(4, 65536, 3, 5);
            x.bounds(0, 0, 200, 1);
            x.history(h);
            int bytes = 0;
            int stretches = x.go();
            for (int k = 0; k < stretches; k++) {
                bytes += x.stretch(k, 0) + x.stretch(k, 1);
            }
            CHECKS.due("history(" + h + "): bytes gone over", bytes + x.about(0), 12 - h);
            CHECKS.due("history(" + h + "): unlike()", x.unlike(), 0);
        }
    }

    private static void costIsLeast() {
        CHECKS.says("the one whose cost is least");
        MatchSeeker x = Checks.holding("abcd.abcd");
        x.rule(4, 65536, 4, 131072);
        x.bounds(0, 0, 8, 30);
        goes(x, 9);
        CHECKS.due("33 for the MATCH, 32 for four LITERALS: about(2)", x.about(2), 72);
        x.bounds(0, 0, 8, 28);
        goes(x, 5, 4, 5, 0);
        CHECKS.due("31 for the MATCH: about(2)", x.about(2), 71);
        x.bounds(0, 0, 0, 0);
        goes(x, 9);
        CHECKS.due("LITERALS for nothing: about(2)", x.about(2), 0);
        x.bounds(0, 0, 255, 255);
        goes(x, 5, 4, 5, 0);
        CHECKS.due("the dearest: about(2)", x.about(2), 5 * 255 + 255 + 3);
        MatchSeeker far = farAndLongOrNear();
        far.bounds(0, 0, 1, 0);
        goes(far, 0, 7, 8, 1);
        CHECKS.due("4 bits and a LITERAL for 1, not 6 bits: about(2)", far.about(2), 5);
        far.bounds(0, 0, 3, 0);
        goes(far, 0, 8, 32, 0);
        CHECKS.due("6 bits, not 4 and a LITERAL for 3: about(2)", far.about(2), 6);
    }

    /** Behind the HISTORY eight bytes that stand 32 before, and seven of them 8 before too. */
    private static MatchSeeker farAndLongOrNear() {
        MatchSeeker x = Checks.holding("abcdefgh1234567890123456abcdefg.abcdefgh");
        x.rule(4, 65536, 4, 131072);
        x.history(32);
        return x;
    }

    private static void matchNotLiteral() {
        CHECKS.says("has the MATCH, not the LITERAL");
        MatchSeeker x = Checks.holding("abcd.abcd");
        x.rule(4, 65536, 4, 131072);
        x.bounds(0, 0, 8, 29);
        goes(x, 5, 4, 5, 0);
        CHECKS.due("32 for both: about(2)", x.about(2), 72);
        MatchSeeker first = Checks.holding("aaaaaa");
        first.rule(4, 65536, 4, 4);
        goes(first, 1, 4, 1, 1);
    }

    private static void longerOfTwo() {
        CHECKS.says("the longer one of two");
        MatchSeeker x = Checks.holding("aaaaaaaaa");
        x.rule(4, 65536, 4, 5);
        goes(x, 1, 4, 1, 0, 4, 1, 0);
        Checks.write(x, "a");
        goes(x, 1, 5, 1, 0, 4, 1, 0);
        MatchSeeker far = farAndLongOrNear();
        far.bounds(0, 0, 2, 0);
        goes(far, 0, 8, 32, 0);
        CHECKS.due("6 bits, or 4 and a LITERAL for 2: about(2)", far.about(2), 6);
    }

    private static void nearerOfTwo() {
        CHECKS.says("of two as long the nearer.");
        MatchSeeker x = Checks.holding("abcd1abcd2abcd");
        x.rule(4, 65536, 4, 131072);
        x.history(10);
        goes(x, 0, 4, 5, 0);
        MatchSeeker sameBits = Checks.holding("abcd1abcd23456abcd");
        sameBits.rule(4, 65536, 4, 131072);
        sameBits.history(14);
        goes(sameBits, 0, 4, 9, 0);
        CHECKS.due("9 and 14 have four bits: about(2)", sameBits.about(2), 20);
        MatchSeeker furtherCouldBeLonger = Checks.holding("abcdefXefghYabcdeZ0123456789abcdefgh");
        furtherCouldBeLonger.rule(4, 65536, 4, 131072);
        furtherCouldBeLonger.bounds(0, 0, 200, 16);
        furtherCouldBeLonger.history(28);
        goes(furtherCouldBeLonger, 0, 4, 16, 0, 4, 25, 0);
        furtherCouldBeLonger.history(27);
        goes(furtherCouldBeLonger, 1, 4, 16, 0, 4, 25, 0);
        MatchSeeker run = Checks.holding("aaaaaaaaaaaa");
        run.rule(4, 65536, 4, 131072);
        run.history(7);
        goes(run, 0, 5, 1, 0);
    }

    private static void noneButTheLatest() {
        CHECKS.says("Of STRETCH k of the latest GOING");
        for (int way = 0; way <= 4; way++) {
            MatchSeeker x = Checks.alike(8);
            x.rule(way, 65536, 4, 131072);
            goes(x, 1, 7, 1, 0);
            x.again(8, 1);
            goes(x, 1, 15, 1, 0);
            x.history(12);
            goes(x, 0, 4, 1, 0);
            x.history(0);
            goes(x, 1, 15, 1, 0);
        }
        for (State state : State.values()) {
            for (int way = 0; way <= 4; way++) {
                int w = way;
                TWINS.alike(state + ", WAY " + w + ": gone over before too, and not", x -> {
                    state.bring(x);
                    goOver(x, 4 - w, 65536, 8);
                    goOver(x, 4, 65536, 3);
                    goOver(x, w, 30, 4);
                }, x -> {
                    state.bring(x);
                    goOver(x, w, 30, 4);
                });
            }
        }
    }

    private static void goOver(MatchSeeker x, int way, int window, int least) {
        x.rule(way, window, least, 12);
        x.bounds(least, 0, 9, way + 11);
        x.history(Math.max(x.size() / least, x.size() - 1000 * least));
        x.go();
    }

    private static void stretchesAndTail() {
        CHECKS.says("What GOING finds are STRETCHES, numbered from 0, one for each MATCH");
        MatchSeeker x = Checks.holding("abcdabcdabcd");
        x.rule(2, 65536, 4, 4);
        goes(x, 4, 4, 4, 0, 4, 4, 0);
        CHECKS.due("no LITERAL between and no TAIL: about(1)", x.about(1), 4);
        x.history(4);
        goes(x, 0, 4, 4, 0, 4, 4, 0);
        CHECKS.due("no LITERAL at all: about(1)", x.about(1), 0);
        Checks.write(x, "abc");
        goes(x, 0, 4, 4, 0, 4, 4, 3);
        CHECKS.due("a TAIL alone: about(1)", x.about(1), 3);
    }

    private static void goByCostRefused() {
        CHECKS.says("-1, refused, with WAY 4 and more than 8,192 bytes behind the HISTORY.");
        TWINS.changesNothing(State.FULL_BY_COST, "go()", MatchSeeker::go, -1);
        MatchSeeker x = Checks.holding("abcdefgabcdefg");
        goes(x, 7, 7, 7, 0);
        x.rule(4, 65536, 4, 131072);
        x.again(7, 1170);
        CHECKS.due("8,204 bytes: go()", x.go(), -1);
        found(x, 7, 7, 7, 0);
        x.history(11);
        CHECKS.due("8,193 bytes behind the HISTORY: go()", x.go(), -1);
        found(x, 7, 7, 7, 0);
        x.history(12);
        goes(x, 0, 8192, 7, 0);
        MatchSeeker full = Checks.alike(MOST);
        full.rule(4, 1, 3, 3);
        CHECKS.due("a full one: go()", full.go(), -1);
        full.history(MOST - MOST_BY_COST - 1);
        CHECKS.due("one too many: go()", full.go(), -1);
        CHECKS.due("nothing was gone over: stretch(0, 0)", full.stretch(0, 0), -1);
        CHECKS.due("nothing was gone over: about(1)", full.about(1), 0);
        CHECKS.due("size()", full.size(), MOST);
    }

    private static void goByCostAtMost() {
        CHECKS.says("with WAY 4 and more than 8,192 bytes");
        for (int bytes : new int[] {1, 2, 3, 4, 511, 512, 513, 4095, 4096, 4097, MOST_BY_COST - 1, MOST_BY_COST}) {
            MatchSeeker some = Checks.alike(bytes);
            some.rule(4, 65536, 3, 131072);
            CHECKS.due(bytes + " bytes: go()", some.go(), bytes > 3 ? 1 : 0);
            CHECKS.due(bytes + " bytes: about(3)", some.about(3), bytes > 3 ? bytes - 1 : 0);
            CHECKS.due(bytes + " bytes: about(1)", some.about(1), bytes > 3 ? 1 : bytes);
        }
        MatchSeeker x = Checks.alike(MOST_BY_COST);
        x.rule(4, 65536, 3, 131072);
        goes(x, 1, 8191, 1, 0);
        x.write(0, 1);
        CHECKS.due("8,193 bytes: go()", x.go(), -1);
        x.history(1);
        goes(x, 0, 8192, 1, 0);
        MatchSeeker full = Checks.alike(MOST);
        full.rule(4, 1, 3, 3);
        full.history(MOST - MOST_BY_COST);
        CHECKS.due("8,192 bytes of a full one: go()", full.go(), 2730);
        CHECKS.due("the last stretch", full.stretch(2729, 1), 3);
        CHECKS.due("none behind it", full.stretch(2730, 1), -1);
        CHECKS.due("about(0)", full.about(0), 2);
        CHECKS.due("about(2)", full.about(2), 2730 * 17 + 16);
    }

    private static void goOtherwiseNotRefused() {
        CHECKS.says("refused, with WAY 4");
        for (int way = 0; way <= 3; way++) {
            MatchSeeker x = Checks.alike(MOST_BY_COST + 1);
            x.rule(way, 65536, 3, 131072);
            goes(x, 1, MOST_BY_COST, 1, 0);
            MatchSeeker full = Checks.alike(MOST);
            full.rule(way, 65536, 3, 131072);
            goes(full, 1, MOST - 1, 1, 0);
        }
    }

    private static void stretchNoneSuch() {
        CHECKS.says("-1 when there is none such.");
        for (State state : State.values()) {
            int stretches = 0;
            while (state.make().stretch(stretches, 0) >= 0) {
                stretches++;
            }
            boolean gone = state == State.GONE_OVER || state == State.FULL || state == State.BY_COST
                    || state == State.FULL_BY_COST;
            CHECKS.due(state + ": how many stretches", stretches, gone ? 4 : 0);
            for (int k : new int[] {-1, stretches, stretches + 1, MIN, MAX}) {
                for (int what = 0; what <= 2; what++) {
                    int w = what;
                    CHECKS.due(state + ": stretch(" + k + ", " + w + ")", state.make().stretch(k, w), -1);
                }
            }
            for (int what : new int[] {-1, 3, 4, MIN, MAX}) {
                CHECKS.due(state + ": stretch(0, " + what + ")", state.make().stretch(0, what), -1);
                CHECKS.due(state + ": stretch(-1, " + what + ")", state.make().stretch(-1, what), -1);
            }
            TWINS.changesNothing(state, "stretch(-1, 0)", x -> x.stretch(-1, 0), -1);
            TWINS.changesNothing(state, "stretch(0, 3)", x -> x.stretch(0, 3), -1);
        }
        MatchSeeker fewer = Checks.holding("abcdabcdabcd");
        fewer.rule(2, 65536, 4, 4);
        goes(fewer, 4, 4, 4, 0, 4, 4, 0);
        fewer.history(9);
        goes(fewer, 3);
        CHECKS.due("fewer than before: stretch(1, 0)", fewer.stretch(1, 0), -1);
    }

    private static void whatWasFoundStays() {
        CHECKS.says("(What was found stays when DATA or RULE change, but see clear.)");
        MatchSeeker x = Checks.holding("abcdefgabcdefgh");
        goes(x, 7, 7, 7, 1);
        x.write(0, 8);
        found(x, 7, 7, 7, 1);
        x.again(23, 1000);
        found(x, 7, 7, 7, 1);
        x.history(23000);
        found(x, 7, 7, 7, 1);
        x.rule(4, 1, 8, 8);
        found(x, 7, 7, 7, 1);
        x.bounds(32, 32, 255, 255);
        found(x, 7, 7, 7, 1);
        CHECKS.due("the cost at the PRICES of then", x.about(2), 8 * 8 + 16 + 3);
        x.clear();
        found(x, 0);
    }

    private static void aboutEach() {
        CHECKS.says("all LITERALS (1), the cost (2), the greatest LENGTH (3), the greatest DISTANCE (4)");
        MatchSeeker x = Checks.holding("abcdefgh.abcdefgh1efgh22");
        x.go();
        about(x, 2, 9 + 1 + 2, 12 * 8 + 2 * 16 + 4 + 3, 8, 9);
        MatchSeeker none = Checks.holding("abcdefgh");
        none.go();
        about(none, 8, 8, 64, 0, 0);
        none.history(8);
        none.go();
        about(none, 0, 0, 0, 0, 0);
        MatchSeeker dearest = Checks.alike(MOST);
        dearest.bounds(0, 32, 255, 255);
        dearest.rule(2, 1, 8, 8);
        dearest.go();
        about(dearest, 7 + 32, 1 + 7 + 32, 40 * 255 + 4091 * 256, 8, 1);
    }

    private static void about(MatchSeeker x, int... due) {
        for (int what = 0; what <= 4; what++) {
            CHECKS.due("about(" + what + ")", x.about(what), due[what]);
        }
    }

    private static void aboutAnother() {
        CHECKS.says("-1 for another what");
        for (State state : State.values()) {
            for (int what : new int[] {-1, 5, 6, MIN, MAX}) {
                TWINS.changesNothing(state, "about(" + what + ")", x -> x.about(what), -1);
            }
        }
    }

    private static void aboutNothingGoneOver() {
        CHECKS.says("all 0 when nothing was gone over.");
        for (State state : new State[] {State.NEW, State.RULED, State.WRITTEN, State.CLEARED}) {
            about(state.make(), 0, 0, 0, 0, 0);
        }
    }

    private static void unlikeNothingGoneOver() {
        CHECKS.says("how many bytes, of as many as DATA had then, are not as DATA has them now");
        for (State state : State.values()) {
            TWINS.changesNothing(state, "unlike()", MatchSeeker::unlike, 0);
        }
        MatchSeeker x = Checks.holding("abcdefgabcdefg");
        x.go();
        x.clear();
        CHECKS.due("none then: unlike()", x.unlike(), 0);
        Checks.write(x, "xyz");
        CHECKS.due("none then: unlike()", x.unlike(), 0);
        x.again(3, 1000);
        x.history(1);
        x.go();
        CHECKS.due("unlike()", x.unlike(), 0);
    }

    private static void unlikeAsHistoryWasThen() {
        CHECKS.says("behind its first h bytes as h was then");
        MatchSeeker x = Checks.holding("abcdefgabcdefg.");
        for (int then = 0; then <= 15; then++) {
            x.history(then);
            x.go();
            for (int now : new int[] {0, 1, 14, 15}) {
                x.history(now);
                CHECKS.due("history " + then + " then, " + now + " now: unlike()", x.unlike(), 0);
            }
        }
        MatchSeeker full = Checks.alike(MOST);
        full.go();
        full.history(MOST);
        CHECKS.due("all is HISTORY now: unlike()", full.unlike(), 0);
        full.go();
        full.history(0);
        CHECKS.due("all was HISTORY then: unlike()", full.unlike(), 0);
    }

    private static void lookingChangesNothing() {
        CHECKS.says("Nothing is promised beyond the answers and state changes described above");
        for (State state : State.values()) {
            for (int what = 0; what <= 4; what++) {
                int w = what;
                TWINS.changesNothing(state, "about(" + w + ")", x -> x.about(w), state.make().about(w));
                TWINS.changesNothing(state, "stretch(1, " + w + ")", x -> x.stretch(1, w), state.make().stretch(1, w));
            }
            TWINS.changesNothing(state, "size()", MatchSeeker::size, state.bytes());
        }
    }
}
