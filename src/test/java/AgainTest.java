/** Promise 4: again. */
public final class AgainTest {
    private static final Checks CHECKS = new Checks();

    public static void main(String[] args) {
        repeats();
        refusals();
        tooMany();
        CHECKS.finish("AgainTest");
    }

    private static void repeats() {
        MatchSeeker x = new MatchSeeker();
        Checks.write(x, "xyabc");
        CHECKS.due("again(3, 3)", x.again(3, 3), true);
        CHECKS.due("size()", x.size(), 14);
        CHECKS.due("the last three, three times", x.at(5, 2, 0), 9);
        CHECKS.due("from three before", x.at(5, 2, 1), 3);
        CHECKS.due("again(14, 1)", x.again(14, 1), true);
        CHECKS.due("all of it once more", x.at(14, 2, 0), 14);
        CHECKS.due("from the beginning", x.at(14, 2, 1), 14);
        CHECKS.due("again(1, 0)", x.again(1, 0), true);
        CHECKS.due("none more", x.size(), 28);
    }

    private static void refusals() {
        MatchSeeker x = new MatchSeeker();
        CHECKS.due("again(1, 0) of nothing", x.again(1, 0), false);
        CHECKS.due("again(0, 0) of nothing", x.again(0, 0), false);
        Checks.write(x, "abc");
        CHECKS.due("again(0, 1)", x.again(0, 1), false);
        CHECKS.due("again(-1, 1)", x.again(-1, 1), false);
        CHECKS.due("again(4, 1)", x.again(4, 1), false);
        CHECKS.due("again(4, 0)", x.again(4, 0), false);
        CHECKS.due("again(3, -1)", x.again(3, -1), false);
        CHECKS.due("again(-1, -1)", x.again(-1, -1), false);
        CHECKS.due("again(MIN, MIN)", x.again(Integer.MIN_VALUE, Integer.MIN_VALUE), false);
        CHECKS.due("again(2, MAX), whose product wraps round", x.again(2, Integer.MAX_VALUE), false);
        CHECKS.due("again(2, 1 << 30)", x.again(2, 1 << 30), false);
        CHECKS.due("size()", x.size(), 3);
        CHECKS.due("again(3, 1)", x.again(3, 1), true);
        CHECKS.due("size()", x.size(), 6);
    }

    private static void tooMany() {
        MatchSeeker x = new MatchSeeker();
        x.write(0x0102030405060708L, 8);
        CHECKS.due("one time too many", x.again(8, 4096), false);
        CHECKS.due("size() after what was refused", x.size(), 8);
        CHECKS.due("just as many", x.again(8, 4095), true);
        CHECKS.due("size()", x.size(), 32768);
        CHECKS.due("one more", x.again(1, 1), false);
        CHECKS.due("none more", x.again(32768, 0), true);
        CHECKS.due("at(8, 2, 0)", x.at(8, 2, 0), 32760);
        CHECKS.due("at(8, 2, 1)", x.at(8, 2, 1), 8);
    }
}
