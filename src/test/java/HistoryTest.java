/** Promise 5: history. */
public final class HistoryTest {
    private static final Checks CHECKS = new Checks();

    public static void main(String[] args) {
        MatchSeeker x = new MatchSeeker();
        CHECKS.due("history(0) of nothing", x.history(0), true);
        CHECKS.due("history(1) of nothing", x.history(1), false);
        Checks.write(x, "abcdeabcdeabcde");
        CHECKS.due("history(-1)", x.history(-1), false);
        CHECKS.due("history(MIN)", x.history(Integer.MIN_VALUE), false);
        CHECKS.due("history(16)", x.history(16), false);
        CHECKS.due("history(MAX)", x.history(Integer.MAX_VALUE), false);

        CHECKS.due("history(7)", x.history(7), true);
        CHECKS.due("history(16) changes nothing", x.history(16), false);
        CHECKS.due("go()", x.go(), 1);
        CHECKS.due("no LITERAL before", x.stretch(0, 0), 0);
        CHECKS.due("the rest is one MATCH", x.stretch(0, 1), 8);
        CHECKS.due("that begins in the HISTORY", x.stretch(0, 2), 5);

        CHECKS.due("history(15), all of it", x.history(15), true);
        CHECKS.due("go() over nothing", x.go(), 0);
        CHECKS.due("about(0)", x.about(0), 0);
        CHECKS.due("at() sees the HISTORY too", x.at(5, 2, 0), 10);

        CHECKS.due("history(0)", x.history(0), true);
        CHECKS.due("go() over all", x.go(), 1);
        CHECKS.due("five LITERALS before", x.stretch(0, 0), 5);

        x.history(15);
        Checks.write(x, "abcdeQ");
        CHECKS.due("writing leaves the HISTORY: go()", x.go(), 1);
        CHECKS.due("no LITERAL before", x.stretch(0, 0), 0);
        CHECKS.due("the TAIL", x.about(0), 1);
        CHECKS.finish("HistoryTest");
    }
}
