/** The boundary cases of the promises 6 and 7, and of the RULE under 'Terms': a method for each sentence. */
public final class EdgeRuleTest {
    private static final int MIN = Integer.MIN_VALUE;
    private static final int MAX = Integer.MAX_VALUE;
    private static final Checks CHECKS = new Checks();
    private static final Twins TWINS = new Twins(CHECKS);

    public static void main(String[] args) {
        ways();
        windows();
        leasts();
        caps();
        refusedRulesChangeNothing();
        last();
        end();
        lastAndEndTogether();
        endOfFewBytes();
        aAndB();
        prices();
        refusedBoundsChangeNothing();
        CHECKS.finish("EdgeRuleTest");
    }

    private static void taken(MatchSeeker x, int way, int window, int least, int cap) {
        String call = "rule(" + way + ", " + window + ", " + least + ", " + cap + ")";
        CHECKS.due(call, x.rule(way, window, least, cap), true);
    }

    private static void refused(int way, int window, int least, int cap) {
        String call = "rule(" + way + ", " + window + ", " + least + ", " + cap + ")";
        CHECKS.due(call, new MatchSeeker().rule(way, window, least, cap), false);
    }

    private static void takenBounds(MatchSeeker x, int a, int b, int literal, int match) {
        String call = "bounds(" + a + ", " + b + ", " + literal + ", " + match + ")";
        CHECKS.due(call, x.bounds(a, b, literal, match), true);
    }

    private static void refusedBounds(int a, int b, int literal, int match) {
        String call = "bounds(" + a + ", " + b + ", " + literal + ", " + match + ")";
        CHECKS.due(call, new MatchSeeker().bounds(a, b, literal, match), false);
    }

    private static void ways() {
        CHECKS.says("The RULE has a WAY (0 .. 4, at first 2)");
        int[] literals = {12, 9, 9, 14, 4};
        int[] furthest = {14, 17, 20, 6, 20};
        for (int way = 0; way <= 4; way++) {
            MatchSeeker x = State.WRITTEN.make();
            x.history(0);
            x.bounds(0, 0, 8, 16);
            taken(x, way, 20, 4, 9);
            x.go();
            CHECKS.due("WAY " + way + " is in force: about(1)", x.about(1), literals[way]);
            CHECKS.due("WAY " + way + " is in force: about(4)", x.about(4), furthest[way]);
        }
        for (int way : new int[] {-1, 5, 6, MIN, MAX}) {
            refused(way, 20, 4, 9);
        }
    }

    private static void windows() {
        CHECKS.says("a WINDOW (1 .. 65,536; at first 65,536)");
        MatchSeeker x = Checks.alike(100);
        taken(x, 2, 1, 4, 131072);
        CHECKS.due("the smallest: count(50)", x.count(50), 1);
        CHECKS.due("the smallest: count(1)", x.count(1), 1);
        MatchSeeker y = new MatchSeeker();
        Checks.write(y, "abc");
        y.write(0, 1);
        y.again(1, 32761);
        Checks.write(y, "abc");
        taken(y, 2, 65536, 3, 131072);
        CHECKS.due("the greatest, and the furthest place there can be", y.at(32765, 0, 1), 32765);
        taken(y, 2, 32765, 3, 131072);
        CHECKS.due("just as far", y.at(32765, 0, 1), 32765);
        taken(y, 2, 32764, 3, 131072);
        CHECKS.due("one less", y.at(32765, 0, 1), 0);
        for (int window : new int[] {0, -1, 65537, MIN, MAX}) {
            refused(2, window, 4, 9);
        }
    }

    private static void leasts() {
        CHECKS.says("LEAST (3 .. 8; at first 4)");
        for (int least = 3; least <= 8; least++) {
            MatchSeeker x = Checks.alike(20);
            taken(x, 2, 65536, least, 131072);
            CHECKS.due("LEAST " + least + ": just so many", x.at(20 - least, 2, 0), least);
            CHECKS.due("LEAST " + least + ": one less", x.at(21 - least, 2, 0), 0);
        }
        MatchSeeker first = Checks.alike(20);
        CHECKS.due("at first 4: at(16, 2, 0)", first.at(16, 2, 0), 4);
        CHECKS.due("at first 4: at(17, 2, 0)", first.at(17, 2, 0), 0);
        for (int least : new int[] {2, 1, 0, -1, 9, MIN, MAX}) {
            refused(2, 20, least, 131072);
            refused(2, 20, least, least);
        }
    }

    private static void caps() {
        CHECKS.says("CAP (LEAST .. 131,072; at first 131,072)");
        for (int least = 3; least <= 8; least++) {
            MatchSeeker x = Checks.alike(100);
            taken(x, 2, 65536, least, least);
            CHECKS.due("CAP is LEAST: at(1, 2, 0)", x.at(1, 2, 0), least);
            refused(2, 65536, least, least - 1);
        }
        MatchSeeker y = Checks.alike(32768);
        taken(y, 2, 65536, 3, 131072);
        CHECKS.due("the greatest: at(1, 2, 0)", y.at(1, 2, 0), 32767);
        taken(y, 2, 65536, 3, 32767);
        CHECKS.due("just as long: at(1, 2, 0)", y.at(1, 2, 0), 32767);
        taken(y, 2, 65536, 3, 32766);
        CHECKS.due("one less: at(1, 2, 0)", y.at(1, 2, 0), 32766);
        for (int cap : new int[] {131073, 2, 0, -1, MIN, MAX}) {
            refused(2, 20, 3, cap);
        }
    }

    /** What is refused for one part has others that would be taken, and would show. */
    private static void refusedRulesChangeNothing() {
        CHECKS.says("Part of the RULE. False, refused, when one is not as said.");
        int[][] rules = {{5, 19, 3, 8}, {-1, 19, 3, 8}, {MIN, 19, 3, 8}, {MAX, 19, 3, 8},
            {0, 0, 3, 8}, {3, 65537, 3, 8}, {0, -1, 3, 8}, {3, MIN, 3, 8}, {0, MAX, 3, 8},
            {0, 19, 2, 8}, {3, 19, 9, 9}, {0, 19, 0, 8}, {3, 19, MIN, 8}, {0, 19, MAX, MAX}, {3, 19, -1, 8},
            {0, 19, 3, 2}, {3, 19, 8, 7}, {0, 19, 3, 131073}, {3, 19, 3, MIN}, {0, 19, 3, MAX}, {3, 19, 5, 4},
            {2, 20, 4, 3}, {2, 20, 3, 2}, {2, 20, 9, 9}, {2, 0, 4, 9}, {5, 20, 4, 9}};
        for (State state : State.values()) {
            for (int[] r : rules) {
                String call = "rule(" + r[0] + ", " + r[1] + ", " + r[2] + ", " + r[3] + ")";
                TWINS.refused(state, call, x -> x.rule(r[0], r[1], r[2], r[3]));
            }
        }
    }

    private static void last() {
        CHECKS.says("LAST is n - 1 - a");
        for (int a = 0; a <= 32; a++) {
            MatchSeeker x = Checks.alike(64);
            takenBounds(x, a, 0, 8, 16);
            int last = Math.min(63 - a, 60);
            CHECKS.due("a " + a + ": count(" + last + ")", x.count(last), last);
            CHECKS.due("a " + a + ": count(" + (last + 1) + ")", x.count(last + 1), 0);
            CHECKS.due("a " + a + ": at(" + last + ", 0, 0)", x.at(last, 0, 0), 64 - last);
            CHECKS.due("a " + a + ": at(" + (last + 1) + ", 0, 0)", x.at(last + 1, 0, 0), 0);
        }
        for (int n = 0; n <= 40; n++) {
            MatchSeeker x = Checks.alike(n);
            x.bounds(32, 0, 8, 16);
            CHECKS.due(n + " bytes, a 32: is there a MATCH at place 1", x.count(1), n >= 34 ? 1 : 0);
            CHECKS.due(n + " bytes, a 32: go()", x.go(), n >= 34 ? 1 : 0);
        }
    }

    private static void end() {
        CHECKS.says("END is n - b");
        for (int b = 0; b <= 32; b++) {
            MatchSeeker x = Checks.alike(64);
            takenBounds(x, 0, b, 8, 16);
            int furthest = 64 - b - 4;
            CHECKS.due("b " + b + ": at(1, 2, 0)", x.at(1, 2, 0), 63 - b);
            CHECKS.due("b " + b + ": LEAST bytes before END", x.at(furthest, 2, 0), 4);
            CHECKS.due("b " + b + ": one less", x.at(furthest + 1, 2, 0), 0);
            CHECKS.due("b " + b + ": go()", x.go(), 1);
            CHECKS.due("b " + b + ": the TAIL", x.about(0), b);
        }
    }

    private static void lastAndEndTogether() {
        CHECKS.says("each told as how many bytes lie behind it");
        for (int a = 0; a <= 32; a++) {
            for (int b = 0; b <= 32; b += 1 + a % 3) {
                MatchSeeker x = Checks.alike(70);
                takenBounds(x, a, b, 8, 16);
                int last = Math.min(69 - a, 66 - b);
                CHECKS.due("a " + a + ", b " + b + ": count(" + last + ")", x.count(last), last);
                CHECKS.due("a " + a + ", b " + b + ": count(" + (last + 1) + ")", x.count(last + 1), 0);
            }
        }
    }

    private static void endOfFewBytes() {
        CHECKS.says("END is 0 when n is less than b");
        for (int b : new int[] {1, 5, 31, 32}) {
            for (int n = 0; n <= b + 8; n++) {
                MatchSeeker x = Checks.alike(n);
                x.bounds(0, b, 8, 16);
                boolean some = n - b >= 1 + 4;
                CHECKS.due(n + " bytes, b " + b + ": at(1, 2, 0)", x.at(1, 2, 0), some ? n - b - 1 : 0);
                CHECKS.due(n + " bytes, b " + b + ": count(1)", x.count(1), some ? 1 : 0);
                for (int way = 0; way <= 4; way++) {
                    x.rule(way, 65536, 4, 131072);
                    CHECKS.due(n + " bytes, b " + b + ", WAY " + way + ": go()", x.go(), some ? 1 : 0);
                    CHECKS.due(n + " bytes, b " + b + ", WAY " + way + ": about(0)", x.about(0), some ? b : n);
                }
            }
        }
    }

    private static void aAndB() {
        CHECKS.says("(a and b 0 .. 32; at first 0;");
        for (int wrong : new int[] {-1, 33, MIN, MAX}) {
            refusedBounds(wrong, 0, 8, 16);
            refusedBounds(0, wrong, 8, 16);
        }
        MatchSeeker x = Checks.alike(64);
        takenBounds(x, 32, 32, 8, 16);
        CHECKS.due("LAST is 31, END is 32: count(28)", x.count(28), 28);
        CHECKS.due("LAST is 31, END is 32: count(29)", x.count(29), 0);
        MatchSeeker first = new MatchSeeker();
        Checks.write(first, "abcdabcd");
        CHECKS.due("at first 0: at(4, 2, 0)", first.at(4, 2, 0), 4);
    }

    private static void prices() {
        CHECKS.says("two PRICES, of a LITERAL and of a MATCH (0 .. 255; at first 8 and 16).");
        MatchSeeker x = new MatchSeeker();
        Checks.write(x, "abcdabcd");
        x.go();
        CHECKS.due("at first: about(2)", x.about(2), 4 * 8 + 16 + 3);
        takenBounds(x, 0, 0, 0, 0);
        x.go();
        CHECKS.due("both 0: about(2)", x.about(2), 3);
        takenBounds(x, 0, 0, 255, 0);
        x.go();
        CHECKS.due("255 and 0: about(2)", x.about(2), 4 * 255 + 3);
        takenBounds(x, 0, 0, 0, 255);
        x.go();
        CHECKS.due("0 and 255: about(2)", x.about(2), 255 + 3);
        for (int wrong : new int[] {-1, 256, MIN, MAX}) {
            refusedBounds(0, 0, wrong, 16);
            refusedBounds(0, 0, 8, wrong);
        }
    }

    private static void refusedBoundsChangeNothing() {
        CHECKS.says("a and b of LAST and END, the PRICES. False, refused, likewise.");
        int[][] bounds = {{33, 2, 6, 14}, {-1, 2, 6, 14}, {MIN, 2, 6, 14}, {MAX, 2, 6, 14},
            {9, 33, 6, 14}, {9, -1, 6, 14}, {9, MIN, 6, 14}, {9, MAX, 6, 14},
            {9, 2, 256, 14}, {9, 2, -1, 14}, {9, 2, MIN, 14}, {9, 2, MAX, 14},
            {9, 2, 6, 256}, {9, 2, 6, -1}, {9, 2, 6, MIN}, {9, 2, 6, MAX},
            {33, 1, 7, 15}, {8, 33, 7, 15}, {8, 1, 256, 15}, {8, 1, 7, 256}};
        for (State state : State.values()) {
            for (int[] r : bounds) {
                String call = "bounds(" + r[0] + ", " + r[1] + ", " + r[2] + ", " + r[3] + ")";
                TWINS.refused(state, call, x -> x.bounds(r[0], r[1], r[2], r[3]));
            }
        }
    }
}
