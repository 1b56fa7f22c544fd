import java.util.Random;

/** No call ever throws, whatever its arguments, and large DATA is gone over as small DATA is. */
public final class AnyCallsTest {
    private static final int[] ODD = {Integer.MIN_VALUE, Integer.MIN_VALUE + 1, -65537, -1, 0, 1, 2, 3, 4, 5, 7, 8,
        9, 31, 32, 33, 255, 256, 511, 512, 513, 4095, 4096, 4097, 8191, 8192, 8193, 10922, 32767, 32768, 32769,
        65535, 65536, 65537, 131071, 131072, 131073, Integer.MAX_VALUE - 1, Integer.MAX_VALUE};

    private final Random random;
    private final MatchSeeker x = new MatchSeeker();

    private AnyCallsTest(int run) {
        random = new Random(run);
    }

    public static void main(String[] args) {
        Checks checks = new Checks();
        for (int run = 0; run < 400; run++) {
            AnyCallsTest test = new AnyCallsTest(run);
            for (int call = 0; call < 510; call++) {
                test.callByChance();
            }
            checks.due("run " + run + ": size()", test.x.size() >= 0 && test.x.size() <= 32768, true);
            checks.due("run " + run + ": unlike()", test.x.unlike(), 0);
        }
        grow(checks);
        checks.finish("AnyCallsTest");
    }

    private int odd() {
        return random.nextBoolean() ? ODD[random.nextInt(ODD.length)] : random.nextInt(10);
    }

    private void callByChance() {
        switch (random.nextInt(14)) {
            case 0: x.write(random.nextLong() & 0x0101010101010101L, random.nextInt(9)); break;
            case 1: x.again(odd(), odd()); break;
            case 2: x.history(odd()); break;
            case 3: x.rule(odd(), odd(), odd(), odd()); break;
            case 4:
                x.rule(random.nextInt(5), 1 + random.nextInt(9000), 3 + random.nextInt(6), 8 + random.nextInt(99));
                break;
            case 5: x.bounds(odd(), odd(), odd(), odd()); break;
            case 6: x.bounds(random.nextInt(33), random.nextInt(33), random.nextInt(256), random.nextInt(256)); break;
            case 7: x.at(odd(), odd(), odd()); break;
            case 8: x.count(odd()); break;
            case 9: x.go(); break;
            case 10: x.stretch(odd(), odd()); break;
            case 11: x.about(odd()); break;
            case 12: x.unlike(); break;
            default:
                if (random.nextInt(40) == 0) {
                    x.clear();
                }
                break;
        }
    }

    /** Rows grow at 512 and at 4,096 bytes: what is found on both sides of these is as the oracle has it. */
    private static void grow(Checks checks) {
        MatchSeeker x = new MatchSeeker();
        Oracle y = new Oracle();
        Random random = new Random(99);
        for (int i = 0; i < 25; i++) {
            long eight = random.nextLong() & 0x0301030103010301L;
            x.write(eight, 8);
            y.write(eight, 8);
        }
        for (int size : new int[] {509, 511, 512, 513, 4095, 4096, 4097, 5003}) {
            int m = Math.min(150, size - y.size());
            int n = (size - y.size()) / m;
            checks.due("again(" + m + ", " + n + ")", x.again(m, n), y.again(m, n));
            while (y.size() < size) {
                long eight = random.nextLong();
                checks.due("write", x.write(eight, 1), y.write(eight, 1));
            }
            goEachWay(checks, x, y);
        }
    }

    private static void goEachWay(Checks checks, MatchSeeker x, Oracle y) {
        int size = y.size();
        for (int way = 0; way <= 4; way++) {
            int h = way == 4 ? Math.max(0, size - 600) : 0;
            checks.due("rule", x.rule(way, 65536, 3 + way, 140), y.rule(way, 65536, 3 + way, 140));
            checks.due("history", x.history(h), y.history(h));
            checks.due(size + " bytes, way " + way + ": go()", x.go(), y.go());
            for (int what = 0; what <= 4; what++) {
                checks.due(size + " bytes, way " + way + ": about(" + what + ")", x.about(what), y.about(what));
            }
            checks.due("count(" + size / 2 + ")", x.count(size / 2), y.count(size / 2));
            checks.due("unlike()", x.unlike(), 0);
        }
    }
}
