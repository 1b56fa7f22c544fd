/** Promises 3 and 14: write, and how many bytes there are. */
public final class WriteTest {
    private static final Checks CHECKS = new Checks();

    public static void main(String[] args) {
        highestBytesFirst();
        wrongNumbers();
        tooMany();
        CHECKS.finish("WriteTest");
    }

    private static void highestBytesFirst() {
        MatchSeeker x = new MatchSeeker();
        CHECKS.due("write 8", x.write(0x0102030405060708L, 8), true);
        CHECKS.due("size()", x.size(), 8);
        CHECKS.due("write 4", x.write(0x03040506FFFFFFFFL, 4), true);
        CHECKS.due("size()", x.size(), 12);
        CHECKS.due("the four highest, the highest first", x.at(8, 2, 0), 4);
        CHECKS.due("the four highest, the highest first", x.at(8, 2, 1), 6);
        CHECKS.due("write 1", x.write(0x07AAAAAAAAAAAAAAL, 1), true);
        CHECKS.due("one more", x.at(8, 2, 0), 5);
        CHECKS.due("write 1, another", x.write(0x0900000000000008L, 1), true);
        CHECKS.due("not one more", x.at(8, 2, 0), 5);

        MatchSeeker high = new MatchSeeker();
        high.write(0xFFFEFDFCFFFEFDFCL, 8);
        CHECKS.due("bytes above 127", high.at(4, 0, 0), 4);
    }

    private static void wrongNumbers() {
        MatchSeeker x = new MatchSeeker();
        for (int n : new int[] {0, -1, 9, Integer.MIN_VALUE, Integer.MAX_VALUE}) {
            CHECKS.due("write(1, " + n + ")", x.write(1L, n), false);
        }
        CHECKS.due("size() after what was refused", x.size(), 0);
        for (int n = 1; n <= 8; n++) {
            CHECKS.due("write(1, " + n + ")", x.write(1L, n), true);
        }
        CHECKS.due("size()", x.size(), 36);
    }

    private static void tooMany() {
        MatchSeeker x = new MatchSeeker();
        x.write(0, 1);
        x.again(1, 32760);
        CHECKS.due("size()", x.size(), 32761);
        CHECKS.due("one too many", x.write(0, 8), false);
        CHECKS.due("size() after what was refused", x.size(), 32761);
        CHECKS.due("just as many", x.write(0, 7), true);
        CHECKS.due("size()", x.size(), 32768);
        CHECKS.due("none more", x.write(0, 1), false);
        CHECKS.due("size() in the end", x.size(), 32768);
    }
}
