/** The boundary cases of promises 1 to 5 and 14, of DATA and HISTORY under 'Terms': a method for each sentence. */
public final class EdgeDataTest {
    private static final int MIN = Integer.MIN_VALUE;
    private static final int MAX = Integer.MAX_VALUE;
    private static final int MOST = 32768;
    private static final Checks CHECKS = new Checks();
    private static final Twins TWINS = new Twins(CHECKS);

    public static void main(String[] args) {
        dataAtMost();
        dataNoneAtFirst();
        historyAtFirstAndAtMost();
        allAsSaidAtFirst();
        nothingWasGoneOver();
        clearLeavesNoData();
        clearLeavesNoHistory();
        clearLeavesTheRule();
        clearTakesWhatWasFound();
        clearOfAFullObject();
        writeTheHighestFirst();
        writeRefusedByNumber();
        writeRefusedWhenFull();
        againNoTimes();
        againRefusedByHowManyBytes();
        againRefusedByHowManyTimes();
        againRefusedWhenTooMany();
        againRefusedWhenTheProductWraps();
        historyFromNoneToAll();
        historyRefused();
        sizeFromNoneToAll();
        lastCallPromised();
        CHECKS.finish("EdgeDataTest");
    }

    /** An object with so many bytes, each as the one 7 before it. */
    private static MatchSeeker holding(int bytes) {
        MatchSeeker x = new MatchSeeker();
        Checks.write(x, "abcdefg".substring(0, Math.min(7, bytes)));
        if (bytes > 7) {
            x.again(7, (bytes - 7) / 7);
            Checks.write(x, "abcdefg".substring(0, bytes % 7));
        }
        CHECKS.due("size() of what was made", x.size(), bytes);
        return x;
    }

    private static void dataAtMost() {
        CHECKS.says("DATA is a row of n bytes (at most 32,768");
        MatchSeeker x = holding(MOST - 1);
        CHECKS.due("write of the last byte", x.write(0x61L << 56, 1), true);
        CHECKS.due("size()", x.size(), MOST);
        CHECKS.due("the last byte is there: at(7, 2, 0)", x.at(7, 2, 0), MOST - 7);
        CHECKS.due("the last place is none of a MATCH: at(32767, 2, 0)", x.at(MOST - 1, 2, 0), 0);
        CHECKS.due("there is no place 32,768: at(32768, 2, 0)", x.at(MOST, 2, 0), 0);
        CHECKS.due("go()", x.go(), 1);
        CHECKS.due("stretch(0, 1)", x.stretch(0, 1), MOST - 7);
        CHECKS.due("unlike()", x.unlike(), 0);
    }

    private static void dataNoneAtFirst() {
        CHECKS.says("none at first), of which the first h are HISTORY");
        MatchSeeker x = new MatchSeeker();
        CHECKS.due("size()", x.size(), 0);
        for (int way = 0; way <= 3; way++) {
            for (int p = -1; p <= 1; p++) {
                CHECKS.due("at(" + p + ", " + way + ", 0)", x.at(p, way, 0), 0);
                CHECKS.due("at(" + p + ", " + way + ", 1)", x.at(p, way, 1), 0);
            }
        }
        CHECKS.due("count(0)", x.count(0), 0);
        CHECKS.due("again(1, 1)", x.again(1, 1), false);
    }

    private static void historyAtFirstAndAtMost() {
        CHECKS.says("HISTORY (0 at first; never more than n)");
        MatchSeeker x = holding(14);
        CHECKS.due("go()", x.go(), 1);
        CHECKS.due("0 at first: LITERALS from place 0 on", x.stretch(0, 0), 7);
        CHECKS.due("history(14)", x.history(14), true);
        CHECKS.due("more than n: history(15)", x.history(15), false);
        CHECKS.due("go() over nothing", x.go(), 0);
        CHECKS.due("about(1)", x.about(1), 0);
    }

    private static void allAsSaidAtFirst() {
        CHECKS.says("All as said at first");
        TWINS.alike("a new object and one told what is said at first", x -> {
        }, x -> {
            x.rule(2, 65536, 4, 131072);
            x.bounds(0, 0, 8, 16);
            x.history(0);
        });
        MatchSeeker far = new MatchSeeker();
        Checks.write(far, "abcd");
        far.write(0, 1);
        far.again(1, MOST - 9);
        Checks.write(far, "abcd");
        CHECKS.due("the furthest MATCH is in the WINDOW", far.at(MOST - 4, 0, 1), MOST - 4);
        MatchSeeker same = Checks.alike(MOST);
        CHECKS.due("the longest MATCH is below the CAP", same.at(1, 2, 0), MOST - 1);
    }

    private static void nothingWasGoneOver() {
        CHECKS.says("nothing was gone over.");
        for (State state : new State[] {State.NEW, State.RULED, State.WRITTEN, State.CLEARED}) {
            MatchSeeker x = state.make();
            for (int what = 0; what <= 2; what++) {
                CHECKS.due(state + ": stretch(0, " + what + ")", x.stretch(0, what), -1);
            }
            for (int what = 0; what <= 4; what++) {
                CHECKS.due(state + ": about(" + what + ")", x.about(what), 0);
            }
            CHECKS.due(state + ": unlike()", x.unlike(), 0);
        }
    }

    private static void clearLeavesNoData() {
        CHECKS.says("There is no DATA");
        for (State state : State.values()) {
            MatchSeeker x = state.make();
            x.clear();
            CHECKS.due(state + ": size()", x.size(), 0);
            CHECKS.due(state + ": at(5, 2, 0)", x.at(5, 2, 0), 0);
            CHECKS.due(state + ": count(5)", x.count(5), 0);
            CHECKS.due(state + ": again(1, 0)", x.again(1, 0), false);
            CHECKS.due(state + ": go()", x.go(), 0);
            CHECKS.due(state + ": about(1)", x.about(1), 0);
        }
        for (int bytes = 1; bytes <= 60; bytes++) {
            int n = bytes;
            TWINS.alike("cleared of " + n + " bytes that were looked at, and new", x -> {
                Checks.write(x, "a".repeat(n));
                x.history(n / 3);
                x.at(n / 2, 2, 0);
                x.go();
                x.clear();
            }, x -> {
            });
        }
    }

    private static void clearLeavesNoHistory() {
        CHECKS.says("no HISTORY; the RULE stays");
        MatchSeeker x = holding(14);
        x.history(14);
        x.clear();
        CHECKS.due("history(1)", x.history(1), false);
        Checks.write(x, "hijklmnhijklmn");
        CHECKS.due("go()", x.go(), 1);
        CHECKS.due("stretch(0, 0)", x.stretch(0, 0), 7);
    }

    private static void clearLeavesTheRule() {
        CHECKS.says("the RULE stays, what was found goes.");
        TWINS.alike("cleared, and with the same RULE from the start", State.CLEARED::bring, State.RULED::bring);
        TWINS.alike("cleared twice", x -> {
            State.CLEARED.bring(x);
            x.clear();
        }, State.RULED::bring);
        TWINS.alike("cleared when new", MatchSeeker::clear, x -> {
        });
    }

    private static void clearTakesWhatWasFound() {
        CHECKS.says("what was found goes.");
        MatchSeeker x = holding(14);
        x.go();
        x.clear();
        CHECKS.due("stretch(0, 0)", x.stretch(0, 0), -1);
        CHECKS.due("about(1)", x.about(1), 0);
        CHECKS.due("about(2)", x.about(2), 0);
        Checks.write(x, "hijklmnopqrstu");
        CHECKS.due("other DATA, but nothing found: unlike()", x.unlike(), 0);
    }

    private static void clearOfAFullObject() {
        CHECKS.says("`void clear()`: There is no DATA");
        MatchSeeker x = holding(MOST);
        x.go();
        x.clear();
        CHECKS.due("write", x.write(0x7AL << 56, 1), true);
        CHECKS.due("again, to the full", x.again(1, MOST - 1), true);
        CHECKS.due("size()", x.size(), MOST);
        CHECKS.due("at(1, 2, 1)", x.at(1, 2, 1), 1);
        CHECKS.due("at(1, 2, 0)", x.at(1, 2, 0), MOST - 1);
    }

    private static void writeTheHighestFirst() {
        CHECKS.says("Appends the n highest bytes of eight, the highest first: true.");
        long eight = 0x80FF7F0001FE40C3L;
        for (int n = 1; n <= 8; n++) {
            MatchSeeker x = new MatchSeeker();
            for (int k = 0; k < 8; k++) {
                x.write(eight << 8 * k, 1);
            }
            CHECKS.due("write(.., " + n + ")", x.write(eight, n), true);
            CHECKS.due("size()", x.size(), 8 + n);
            for (int k = n; k < 8; k++) {
                x.write(eight << 8 * k, 1);
            }
            CHECKS.due(n + " at once and the rest one by one: at(8, 2, 0)", x.at(8, 2, 0), 8);
            CHECKS.due(n + " at once and the rest one by one: at(8, 2, 1)", x.at(8, 2, 1), 8);
        }
    }

    private static void writeRefusedByNumber() {
        CHECKS.says("False, refused, when n is not 1 .. 8");
        for (State state : State.values()) {
            for (int n : new int[] {0, -1, 9, -8, 16, 257, 65537, MIN, MIN + 1, MAX}) {
                TWINS.refused(state, "write(-1, " + n + ")", x -> x.write(-1L, n));
            }
        }
    }

    private static void writeRefusedWhenFull() {
        CHECKS.says("or there would be too many.");
        for (int n = 1; n <= 8; n++) {
            MatchSeeker x = holding(MOST - n + 1);
            CHECKS.due("one too many: write(-1, " + n + ")", x.write(-1L, n), false);
            CHECKS.due("size()", x.size(), MOST - n + 1);
            CHECKS.due("no byte of it is there: at(7, 2, 0)", x.at(7, 2, 0), MOST - n + 1 - 7);
            MatchSeeker y = holding(MOST - n);
            CHECKS.due("just as many: write(-1, " + n + ")", y.write(-1L, n), true);
            CHECKS.due("size()", y.size(), MOST);
            int m = n;
            TWINS.refused(State.FULL, "write(-1, " + m + ")", z -> z.write(-1L, m));
        }
    }

    private static void againNoTimes() {
        CHECKS.says("Appends n times the last m bytes.");
        TWINS.changesNothing(State.GONE_OVER, "again(1, 0)", x -> x.again(1, 0) ? 1 : 0, 1);
        TWINS.changesNothing(State.GONE_OVER, "again(45, 0)", x -> x.again(45, 0) ? 1 : 0, 1);
        TWINS.changesNothing(State.FULL, "again(32768, 0)", x -> x.again(MOST, 0) ? 1 : 0, 1);
        MatchSeeker one = new MatchSeeker();
        Checks.write(one, "ab");
        CHECKS.due("the smallest: again(1, 1)", one.again(1, 1), true);
        CHECKS.due("size()", one.size(), 3);
        CHECKS.due("all there are: again(3, 1)", one.again(3, 1), true);
        one.rule(2, 65536, 3, 131072);
        CHECKS.due("'abbabb': at(3, 2, 1)", one.at(3, 2, 1), 3);
        MatchSeeker half = holding(MOST / 2);
        CHECKS.due("all there are, to the full: again(16384, 1)", half.again(MOST / 2, 1), true);
        CHECKS.due("size()", half.size(), MOST);
        CHECKS.due("at(16384, 2, 0)", half.at(MOST / 2, 2, 0), MOST / 2);
    }

    private static void againRefusedByHowManyBytes() {
        CHECKS.says("False, refused, when m is not 1 .. how many there are");
        for (State state : State.values()) {
            int there = state.bytes();
            for (int m : new int[] {0, -1, there + 1, MIN, MAX}) {
                for (int n : new int[] {0, 1, -1}) {
                    TWINS.refused(state, "again(" + m + ", " + n + ")", x -> x.again(m, n));
                }
            }
        }
    }

    private static void againRefusedByHowManyTimes() {
        CHECKS.says("n is below 0");
        for (State state : State.values()) {
            for (int n : new int[] {-1, -2, MIN, MIN + 1}) {
                TWINS.refused(state, "again(1, " + n + ")", x -> x.again(1, n));
                TWINS.refused(state, "again(2, " + n + ")", x -> x.again(2, n));
            }
        }
    }

    private static void againRefusedWhenTooMany() {
        CHECKS.says("n is below 0, or there would be too many.");
        for (int m : new int[] {1, 2, 7, 45}) {
            int most = (MOST - 45) / m;
            TWINS.refused(State.GONE_OVER, "again(" + m + ", " + (most + 1) + ")", x -> x.again(m, most + 1));
            MatchSeeker x = State.GONE_OVER.make();
            CHECKS.due("again(" + m + ", " + most + ")", x.again(m, most), true);
            CHECKS.due("size()", x.size(), 45 + m * most);
        }
        TWINS.refused(State.FULL, "again(1, 1)", x -> x.again(1, 1));
        TWINS.refused(State.FULL, "again(32768, 1)", x -> x.again(MOST, 1));
    }

    /** As 32-bit numbers these products, or they and what is there, would be small or below 0. */
    private static void againRefusedWhenTheProductWraps() {
        CHECKS.says("or there would be too many.");
        int[][] products = {{4, 1 << 30}, {4, (1 << 30) + 1}, {2, 1 << 30}, {2, MAX}, {3, 1431655766}, {1, MAX},
            {16, 1 << 28}, {45, 95443718}, {32, 1 << 27}};
        for (int[] p : products) {
            TWINS.refused(State.GONE_OVER, "again(" + p[0] + ", " + p[1] + ")", x -> x.again(p[0], p[1]));
        }
        TWINS.refused(State.FULL, "again(32768, 131072)", x -> x.again(MOST, 131072));
        TWINS.refused(State.FULL, "again(32768, 65536)", x -> x.again(MOST, 65536));
        TWINS.refused(State.FULL, "again(32768, MAX)", x -> x.again(MOST, MAX));
    }

    private static void historyFromNoneToAll() {
        CHECKS.says("The first h bytes are HISTORY.");
        for (State state : State.values()) {
            MatchSeeker x = state.make();
            int there = x.size();
            x.rule(2, 65536, 4, 131072);
            CHECKS.due(state + ": history(0)", x.history(0), true);
            x.go();
            CHECKS.due(state + ": nothing is HISTORY", gone(x), there);
            CHECKS.due(state + ": history(" + there + ")", x.history(there), true);
            CHECKS.due(state + ": all is HISTORY, go()", x.go(), 0);
            CHECKS.due(state + ": all is HISTORY", gone(x), 0);
            if (there > 0) {
                x.history(there - 1);
                x.go();
                CHECKS.due(state + ": all but one are HISTORY", x.about(0), 1);
            }
        }
    }

    /** How many bytes the latest GOING went over. */
    private static int gone(MatchSeeker x) {
        int bytes = x.about(1);
        for (int k = 0; x.stretch(k, 1) >= 0; k++) {
            bytes += x.stretch(k, 1);
        }
        return bytes;
    }

    private static void historyRefused() {
        CHECKS.says("False, refused, when h is below 0 or there are not so many.");
        for (State state : State.values()) {
            int there = state.bytes();
            for (int h : new int[] {-1, MIN, there + 1, there + 2, MOST + 1, MAX}) {
                TWINS.refused(state, "history(" + h + ")", x -> x.history(h));
            }
        }
    }

    private static void sizeFromNoneToAll() {
        CHECKS.says("How many bytes there are.");
        for (int bytes : new int[] {0, 1, 7, 8, 9, 511, 512, 513, 4095, 4096, 4097, MOST - 1, MOST}) {
            MatchSeeker x = holding(bytes);
            x.history(bytes);
            x.go();
            CHECKS.due("size() with all HISTORY", x.size(), bytes);
            x.write(-1L, 9);
            x.again(bytes + 1, 1);
            CHECKS.due("size() after what was refused", x.size(), bytes);
            x.clear();
            CHECKS.due("size() after clear()", x.size(), 0);
        }
        TWINS.changesNothing(State.GONE_OVER, "size()", MatchSeeker::size, 45);
    }

    private static void lastCallPromised() {
        CHECKS.says("An object is used for at most 512 calls after it has been made");
        MatchSeeker x = new MatchSeeker();
        for (int call = 1; call <= 510; call++) {
            CHECKS.due("write, call " + call, x.write(0x6162636465666768L, 8), true);
        }
        CHECKS.due("go(), call 511", x.go(), 1);
        CHECKS.due("stretch(0, 1), call 512", x.stretch(0, 1), 510 * 8 - 8);
    }
}
