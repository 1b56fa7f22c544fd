/** Promise 13: unlike. DATA only grows until clear() takes all, so what is found always leads back to it. */
public final class UnlikeTest {
    private static final Checks CHECKS = new Checks();

    public static void main(String[] args) {
        MatchSeeker x = new MatchSeeker();
        CHECKS.due("before all", x.unlike(), 0);
        Checks.write(x, "abcabcabcab.aaaaaaaaa.abcaaaab");
        CHECKS.due("before go()", x.unlike(), 0);
        for (int way = 0; way <= 4; way++) {
            for (int h = 0; h <= 30; h += 6) {
                x.rule(way, 65536, 3, 7 + h);
                x.history(h);
                x.go();
                CHECKS.due("way " + way + ", history " + h, x.unlike(), 0);
                x.history((h + 11) % 31);
                CHECKS.due("another HISTORY since", x.unlike(), 0);
            }
        }
        x.history(3);
        x.go();
        x.again(30, 300);
        CHECKS.due("more DATA since", x.unlike(), 0);
        x.history(9000);
        CHECKS.due("more HISTORY since than DATA then", x.unlike(), 0);
        x.clear();
        CHECKS.due("after clear()", x.unlike(), 0);
        Checks.write(x, "zzzz");
        CHECKS.due("after clear() and write()", x.unlike(), 0);
        CHECKS.finish("UnlikeTest");
    }
}
