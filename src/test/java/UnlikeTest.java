import java.lang.reflect.Field;

/** Promise 13: unlike. DATA only grows until clear() takes all, so what is found always leads back to it. */
public final class UnlikeTest {
    private static final Checks CHECKS = new Checks();

    public static void main(String[] args) throws ReflectiveOperationException {
        MatchSeeker x = new MatchSeeker();
        CHECKS.due("before all", x.unlike(), 0);
        Checks.write(x, "abcabcabcab.aaaaaaaaa.abcaaaab");
        CHECKS.due("before go()", x.unlike(), 0);
        for (int way = 0; way <= 4; way++) {
            for (int h = 0; h <= 30; h += 6) {
                x.rule(way, 65536, 3, 7 + h);
                x.history(h);
                x.go();
                CHECKS.due("way " + way + ", history " + h, x.unlike(), 0);
                x.history((h + 11) % 31);
                CHECKS.due("another HISTORY since", x.unlike(), 0);
            }
        }
        x.history(3);
        x.go();
        x.again(30, 300);
        CHECKS.due("more DATA since", x.unlike(), 0);
        x.history(9000);
        CHECKS.due("more HISTORY since than DATA then", x.unlike(), 0);
        x.clear();
        CHECKS.due("after clear()", x.unlike(), 0);
        Checks.write(x, "zzzz");
        CHECKS.due("after clear() and write()", x.unlike(), 0);
        changedFromInside();
        CHECKS.finish("UnlikeTest");
    }

    /** No call can make DATA unlike what was found, so the test does, to see that it would be told. */
    private static void changedFromInside() throws ReflectiveOperationException {
        CHECKS.says("are not as DATA has them now (missing ones count).");
        MatchSeeker x = new MatchSeeker();
        Checks.write(x, "abcdabcdabc");
        x.history(2);
        x.go();
        CHECKS.due("nothing changed", x.unlike(), 0);
        Object row = open(x, "row").get(x);
        byte[] bytes = (byte[]) open(row, "bytes").get(row);
        bytes[0] = 'A';
        CHECKS.due("the HISTORY changed: what is said again is unlike twice", x.unlike(), 2);
        bytes[3] = 'D';
        CHECKS.due("a LITERAL changed too", x.unlike(), 3);
        bytes[5] = 'B';
        CHECKS.due("a byte of the MATCH changed too", x.unlike(), 4);
        open(row, "filled").setInt(row, 7);
        CHECKS.due("four bytes are missing", x.unlike(), 2 + 4);
        open(row, "filled").setInt(row, 0);
        CHECKS.due("all are missing", x.unlike(), 11);
    }

    private static Field open(Object owner, String name) throws ReflectiveOperationException {
        Field field = owner.getClass().getDeclaredField(name);
        field.setAccessible(true);
        return field;
    }
}
